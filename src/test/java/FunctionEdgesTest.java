/** Head 7 of the document's Terms, sentence by sentence: the other functions, at their bounds. */
public final class FunctionEdgesTest extends House {
    public static void main(String[] args) {
        leastNumberFirst();
        axesFirst();
        rho();
        ravel();
        join();
        joinScalars();
        joinWrongly();
        laminate();
        laminateWrongly();
        tallyDepthFirst();
        encSame();
        mix();
        mixFills();
        split();
        enlist();
        reverse();
        rotate();
        transpose();
        transposeBy();
        take();
        drop();
        replicate();
        expand();
        unique();
        sets();
        grades();
        iota();
        indexOf();
        where();
        member();
        find();
        pick();
        match();
        parts();
        encode();
        decode();
        deal();
        format();
        emptyOfBoxes();
        noStaleExtents();
        end();
    }

    /** "Of several events of an application the one with the least number comes, if nothing else is told." */
    private static void leastNumberFirst() {
        fails("(1 1 rho 'a') rho 1", RANK);
        fails("(1 1 rho 2000) rho 1", RANK);
        fails("1001 _1 rho 1", DOMAIN);
        fails("(1 1 rho 'a') take 1 2", RANK);
        fails("1 'a' take 5 6", LENGTH);
        fails("1001 'a' take 1 1 rho 5", DOMAIN);
        fails("(1 1 rho 'a') rep 1 2 3", RANK);
        fails("1 'a' rep 1 2 3", LENGTH);
        fails("1001 'a' rep 1 2", DOMAIN);
        fails("'abc' part 1 2", LENGTH);
        fails("'ab' part 1 1 rho 2", RANK);
        fails("'ab' tr 1 2", LENGTH);
        fails("9 'a' tr 1 1 rho 1", DOMAIN);
        fails("1 'a' 'b' deco 1 2", LENGTH);
        fails("2000000000 deco 2 2 'a'", DOMAIN);
        fails("1 2 ? 'a'", LENGTH);
        fails("'a' ? 1001", DOMAIN);
        fails("where (600 rho 2) , 'a'", DOMAIN);
        fails("iota 1001 'a'", DOMAIN);
        fails("1 'a' rot[2] 2 3 rho 1", DOMAIN);
        fails("1 'a' 3 rot 2 2 rho 1", LENGTH);
    }

    /** "An AXIS: COUNT 1 (LENGTH), a WHOLE (DOMAIN), an AXIS of W (INDEX): these are looked at first, also for W of RANK 0". */
    private static void axesFirst() {
        String[] texts = {"rev[%] 5", "rev[%] 5 6", "1 rot[%] 5", "(1 1 rho 1) rot[%] 5 6", "(1 1 rho 1) rep[%] 5 6", "2 rep[%] 5",
            "(1 1 rho 'a') expand[%] 5 6", "1 expand[%] 5", "+/[%] 5", "+/[%] 5 6", "(1 1 rho 'a') +/[%] 5 6", "9 +/[%] 5", "+\\[%] 5",
            "+\\[%] 5 'a'", "1 ,[%] 2", "1 2 ,[%] 1 2 3", "(2 2 rho 1) ,[%] 2 2 2 2 rho 1"};
        for (String text : texts) {
            fails(text.replace("%", "1 1"), LENGTH);
            fails(text.replace("%", "''"), LENGTH);
            fails(text.replace("%", "'ab'"), LENGTH);
            fails(text.replace("%", "'a'"), DOMAIN);
            fails(text.replace("%", "enc 1 1"), DOMAIN);
            fails(text.replace("%", "0"), INDEX);
            fails(text.replace("%", "7"), INDEX);
            fails(text.replace("%", "_2000000000"), INDEX);
            fails(text.replace("%", "2000000000"), INDEX);
            if (!text.contains(",")) fails(text.replace("%", "1r2"), DOMAIN);
        }
        for (String text : new String[] {"rev[1] 5", "1 rot[1] 5", "2 rep[1] 5", "1 expand[1] 5", "+/[1] 5", "1 +/[1] 5", "+\\[1] 5"}) {
            fails(text, INDEX);
        }
        // "without it the last AXIS is meant"
        shows("rev 2 2 rho iota 4 ; +/2 2 rho iota 4 ; 1 rot 2 2 rho iota 4 ; 2 rep 1 2 rho iota 2", "[2 2]2 1 4 3|3 7|[2 2]2 1 4 3|[1 4]1 1 2 2");
    }

    /** "A rho W: A a vector of WHOLES 0 .. (DOMAIN): the extents; W's items in order, again and again; of an EMPTY W its FILL." */
    private static void rho() {
        shows("rho 5 ; rho 1 2 ; rho 2 3 rho 1 ; rho '' ; rho 0 3 rho 1", "|2|2 3|0|0 3");
        empty("q := rho 5", "0", "0");
        shows("5 rho 1 2 ; 2 2 rho 1 2 3 4 5 ; 3 rho 7 ; (0 rho 0) rho 7 8 ; '' rho 7 8", "1 2 1 2 1|[2 2]1 2 3 4|7 7 7|7|7");
        shows("(, 3) rho 1 2 ; (0 rho 0) rho '' ; 2 rho '' ; 2 rho 0 rho 0 ; 2 rho 0 rho enc 1 'a'", "1 2 1| |  |0 0|(0  ) (0  )");
        shows("x := '' ; y := 3 take 1 2 ; 2 rho x ; e := 0 rho 0 ; y := 3 take 'ab' ; 2 rho e", "  |0 0");
        empty("q := 0 rho 'ab'", "0", " ");
        empty("q := 2 0 rho (1 2) 3", "2 0", "(0 0)");
        fails("(1 1 rho 2) rho 1", RANK);
        for (String a : new String[] {"_1", "1r2", "'a'", "(enc 1 2)", "2 _1", "2 'a'"}) fails(a + " rho 1", DOMAIN);
    }

    /** ", W: all items as a VECTOR (with an AXIS: SYNTAX, when it is applied)." */
    private static void ravel() {
        shows(", 5 ; rho , 5 ; , 2 2 rho iota 4 ; , enc 1 2 ; rho , enc 1 2", "5|1|1 2 3 4|(1 2)|1");
        empty("q := , ''", "0", " ");
        empty("q := , 0 3 rho enc 1 2", "0", "(0 0)");
        fails(",[1] 5", SYNTAX);
        fails("f := ,[1] ; f 5", SYNTAX);
        shows("f := ,[1] ; 1 f 5", "1 5");
    }

    /** "A , W: along the AXIS: RANKS the same, or differing by 1 (the lesser one gets extent 1 there)". */
    private static void join() {
        shows("1 2 , 3 4 ; '' , 1 2 ; 1 2 , ''", "1 2 3 4|1 2|1 2");
        shows("(2 2 rho iota 4) , 2 1 rho 8 9 ; (2 2 rho iota 4) ,[1] 1 2 rho 8 9", "[2 3]1 2 8 3 4 9|[3 2]1 2 3 4 8 9");
        shows("(2 2 rho iota 4) , 8 9 ; 8 9 , 2 2 rho iota 4 ; (2 2 rho iota 4) ,[1] 8 9 ; 8 9 ,[1] 2 2 rho iota 4",
            "[2 3]1 2 8 3 4 9|[2 3]8 1 2 9 3 4|[3 2]1 2 3 4 8 9|[3 2]8 9 1 2 3 4");
        shows("rho (2 3 4 rho 1) ,[2] 2 4 rho 1 ; rho (2 3 4 rho 1) ,[1] 3 4 rho 1 ; rho (2 3 4 rho 1) ,[2] 2 5 4 rho 1", "2 4 4|3 3 4|2 8 4");
        shows("(1 2 2 rho iota 4) ,[2] 1 2 rho 8 9 ; (1 2 2 rho iota 4) ,[2] 1 1 2 rho 8 9", "[1 3 2]1 2 3 4 8 9|[1 3 2]1 2 3 4 8 9");
        // an extent of 0 there, and of 1: 1 in all
        shows("(2 0 rho 0) , 2 1 rho 5 6 ; (2 1 rho 5 6) , 2 0 rho 0 ; (2 1 0 rho 0) , 2 1 1 rho 5 6 ; (0 3 rho 0) ,[1] 7 8 9 ; 5 6 , 2 0 rho 0",
            "[2 1]5 6|[2 1]5 6|[2 1 1]5 6|[1 3]7 8 9|[2 1]5 6");
        // "FILL: A's."
        empty("q := '' , 0 rho 0", "0", " ");
        empty("q := (0 rho 0) , ''", "0", "0");
        empty("q := (0 2 rho 'a') , 0 2 rho 1", "0 4", " ");
        empty("q := (0 2 rho 1) , 'a'", "0 3", "0");
        empty("q := 'a' , 0 2 rho 1", "0 3", " ");
    }

    /** "or one is 0 (it is as often there as the other has places on other AXES, extent 1 along the AXIS)". */
    private static void joinScalars() {
        shows("1 , 2 ; rho 1 , 2 ; 1 ,[1] 2 ; 1 , 2 3 ; 1 2 , 3 ; 1 , enc 2 3", "1 2|2|1 2|1 2 3|1 2 3|1 (2 3)");
        shows("9 , 2 2 rho iota 4 ; (2 2 rho iota 4) , 9 ; 9 ,[1] 2 2 rho iota 4 ; (2 2 rho iota 4) ,[1] 9",
            "[2 3]9 1 2 9 3 4|[2 3]1 2 9 3 4 9|[3 2]9 9 1 2 3 4|[3 2]1 2 3 4 9 9");
        shows("rho 9 ,[2] 2 3 4 rho 1 ; rho (1 1 1 1 1 1 rho 1) , 9 ; rho 9 , 0 2 rho 1 ; rho 9 ,[1] 0 2 rho 1", "2 4 4|1 1 1 1 1 2|0 3|1 2");
        House x = new House();
        x.h.set(0, 0);
        due("ORIGIN 0", x.run("1 ,[0] 2 ; 1 ,[1] 2"), INDEX);
        due("ORIGIN 0", x.shown(), "1 2\n");
    }

    /** "else RANK; other extents the same (LENGTH)". "The AXIS (a NUMBER, else DOMAIN) is one of the greater RANK's". */
    private static void joinWrongly() {
        fails("(2 2 2 rho 1) , 1 2", RANK);
        fails("1 2 , 2 2 2 rho 1", RANK);
        fails("(1 1 1 1 rho 1) , 1 1 rho 1", RANK);
        fails("(2 2 rho 1) , 1 2 3", LENGTH);
        fails("1 2 3 , 2 2 rho 1", LENGTH);
        fails("(2 2 rho 1) ,[1] 1 2 3", LENGTH);
        fails("(2 2 rho 1) , 3 2 rho 1", LENGTH);
        fails("(2 2 rho 1) ,[1] 2 3 rho 1", LENGTH);
        fails("(2 3 4 rho 1) ,[2] 2 3 rho 1", LENGTH);
        fails("(2 3 4 rho 1) ,[2] 3 4 rho 1", LENGTH);
        fails("(2 2 rho 1) , ''", LENGTH);
        fails("1 ,[2] 2", INDEX);
        fails("1 2 ,[2] 3 4", INDEX);
        fails("1 ,[3] 2 2 rho 1", INDEX);
        fails("(2 2 2 rho 1) ,[4] 1 2", INDEX);
        fails("1 2 ,['a'] 3", DOMAIN);
    }

    /** "If it is no WHOLE: they lie on a new AXIS with extent 2, which comes ahead of the first AXIS whose number is greater". */
    private static void laminate() {
        shows("1 2 ,[1r2] 3 4 ; 1 2 ,[3r2] 3 4 ; 1 ,[1r2] 2 ; rho 1 ,[1r2] 2", "[2 2]1 2 3 4|[2 2]1 3 2 4|1 2|2");
        shows("9 ,[1r2] 1 2 ; 1 2 ,[1r2] 9 ; 9 ,[3r2] 1 2 ; 1 2 ,[3r2] 9", "[2 2]9 9 1 2|[2 2]1 2 9 9|[2 2]9 1 9 2|[2 2]1 9 2 9");
        shows("0 ,[3r2] 2 2 rho iota 4 ; 0 ,[1r2] 2 2 rho iota 4 ; 0 ,[5r2] 2 2 rho iota 4",
            "[2 2 2]0 0 1 2 0 0 3 4|[2 2 2]0 0 0 0 1 2 3 4|[2 2 2]0 1 0 2 0 3 0 4");
        shows("rho (2 3 rho 1) ,[1r2] 2 3 rho 1 ; rho (2 3 rho 1) ,[3r2] 1 ; rho (2 3 rho 1) ,[5r2] 1", "2 2 3|2 2 3|2 3 2");
        shows("1 2 ,[1r2000000000] 3 4 ; 1 2 ,[1999999999r1000000000] 3 4", "[2 2]1 2 3 4|[2 2]1 3 2 4");
        empty("q := '' ,[1r2] 0 rho 1", "2 0", " ");
        empty("q := (0 rho 1) ,[3r2] ''", "0 2", "0");
        empty("q := 'a' ,[1r2] 0 rho 1", "2 0", " ");
        House x = new House();
        x.h.set(0, 0);
        due("ORIGIN 0", x.run("rho 1 2 3 ,[_1r2] 3 4 5 ; rho 1 2 3 ,[1r2] 3 ; 1 ,[_1r2] 2 ; 1 ,[1r2] 2"), INDEX);
        due("ORIGIN 0", x.shown(), "2 3\n3 2\n1 2\n");
    }

    /** "both of the same RANK and extents (RANK, LENGTH) ..; it is above ORIGIN - 1, below ORIGIN and the greater RANK (INDEX ..)". */
    private static void laminateWrongly() {
        fails("1 2 ,[1r2] 1 2 3", LENGTH);
        fails("1 2 ,[1r2] 2 2 rho 1", RANK);
        fails("(2 2 rho 1) ,[1r2] 1 2", RANK);
        fails("(2 3 rho 1) ,[1r2] 3 2 rho 1", LENGTH);
        fails("1 2 ,[5r2] 3 4", INDEX);
        fails("1 2 ,[_1r2] 3 4", INDEX);
        fails("1 2 ,[_1r2000000000] 3 4", INDEX);
        fails("1 2 ,[1999999999r999999999] 3 4", INDEX);
        fails("1 ,[3r2] 2", INDEX);
        fails("1 ,[_1r2] 2", INDEX);
        fails("(2 2 rho 1) ,[7r2] 2 2 rho 1", INDEX);
        // the AXIS is looked at first
        fails("1 2 ,[5r2] 1 2 3", INDEX);
        fails("1 2 ,[7r2] 2 2 rho 1", INDEX);
        fails("1 2 ,[5r2] 2 2 rho 1", RANK);
        fails("1 2 ,[1r2 1r2] 3 4", LENGTH);
        fails("(501 rho 1) ,[1r2] 1", LIMIT);
        shows("rho (500 rho 1) ,[1r2] 1", "2 500");
    }

    private static void tallyDepthFirst() {
        shows("tally 5 ; tally , 5 ; tally 4 2 rho 1 ; tally '' ; tally 0 3 rho 1 ; tally 3 0 rho 1 ; tally enc 1 2", "1|1|4|0|0|3|1");
        shows("depth 5 ; depth '' ; depth 1 2 ; depth enc 1 2 ; depth 1 (2 (3 4)) ; depth 0 rho enc enc 1 2", "0|1|1|2|3|3");
        shows("first 5 ; first 5 6 ; first (1 2) 3 ; first 2 2 rho 7 8 ; first enc 1 2 ; first 'ab'", "5|5|1 2|7|1 2|a");
        // "of an EMPTY W its FILL, OPENED"
        shows("first '' ; first 0 rho 5 ; first 0 rho enc 1 'a' ; rho first '' ; rho first 0 rho enc 1 'a' ; first 0 3 rho 'a'", " |0|0  ||2| ");
    }

    private static void encSame() {
        shows("enc 5 ; rho enc 5 6 ; enc 5 6 ; enc 'a' ; enc '' ; enc enc 5 6 ; enc enc 5", "5||(5 6)|a|()|((5 6))|5");
        shows("same 5 6 ; 1 same 5 6 ; (2 2 rho 1) same 'a' ; rho same 0 3 rho 1", "5 6|5 6|a|0 3");
    }

    /** "mix W: .. R their greatest RANK (extents of 1 come ahead of those of less), E the greatest extents of these". */
    private static void mix() {
        shows("mix 5 ; mix 5 6 ; mix enc 1 2 ; mix (1 2) (3 4) ; mix (1 2) 3 ; mix (1 2) (3 4 5)", "5|5 6|1 2|[2 2]1 2 3 4|[2 2]1 2 3 0|[2 3]1 2 0 3 4 5");
        shows("mix (2 2 rho iota 4) (5 6) ; mix 9 (2 2 rho iota 4) ; mix (5 6 7) (2 1 rho 8 9)", "[2 2 2]1 2 3 4 5 6 0 0|[2 2 2]9 0 0 0 1 2 3 4|[2 2 3]5 6 7 0 0 0 8 0 0 9 0 0");
        shows("mix (3 1 rho 1 2 3) (1 2 rho 4 5) ; rho mix 2 3 rho enc 1 2 ; mix (enc 1 2) (enc 3 4)", "[2 3 2]1 0 2 0 3 0 4 5 0 0 0 0|2 3 2|(1 2) (3 4)");
        shows("rho mix (2 3 1 rho 1) (1 2 4 rho 1) ; rho mix (2 0 rho 5) 1 ; rho mix '' (1 2 3)", "2 2 3 4|2 2 1|2 3");
        shows("mix (2 1 2 rho 1 2 3 4) (1 1 1 rho 5) ; mix (1 2 1 rho 1 2) 3 ; mix (2 3 0 rho 5) 'b'",
            "[2 2 1 2]1 2 3 4 5 0 0 0|[2 1 2 1]1 2 3 0|[2 2 3 1]0 0 0 0 0 0 b          ");
        shows("rho mix (enc 1 2) , iota 400 ; (mix (enc 1 2) , iota 400)[1 18;]", "401 2|[2 2]1 2 17 0");
        fails("mix 1 1 1 rho enc 1 1 1 1 1 rho 5", LIMIT);
        fails("mix 1 1 1 1 1 1 rho enc 1 1 1 1 1 1 rho 5", LIMIT);
        shows("(mix iota 500) match iota 500 ; mix 100 200 300 ; mix 'abc'", "1|100 200 300|abc");
        fails("x := 1 1 1 1 1 1 rho 1 ; mix x 1", LIMIT);
        fails("mix (1 999 rho 0) (, 1 2)", LIMIT);
        fails("mix (600 rho 1) 2 , 0", LIMIT);
        fails("mix (400 rho 1) 2 3", LIMIT);
        shows("rho mix (498 rho 1) 2", "2 498");
    }

    /** "each item's items stand at the lowest places, the others are its FILL. FILL: that of the first of them." */
    private static void mixFills() {
        shows("mix 'ab' 5 ; mix 5 'ab' ; mix 'a' (1 2 3) ; mix ((1 2) 3) 4", "[2 2]a b 5 0|[2 2]5 0 a b|[2 3]a     1 2 3|[2 2](1 2) 3 4 0");
        shows("mix ((1 2) 3) 'abc' ; mix '' (1 2) ; mix (0 rho 5) 'ab'", "[2 3](1 2) 3 (0 0) a b c|[2 2]    1 2|[2 2]0 0 a b");
        empty("q := mix '' (0 rho 1)", "2 0", " ");
        empty("q := mix (0 rho 1) ''", "2 0", "0");
        // "of an EMPTY W: its FILL, OPENED, gives what follows"
        empty("q := mix ''", "0", " ");
        empty("q := mix 0 rho enc 'abc'", "0 3", " ");
        empty("q := mix 0 2 rho enc 2 2 rho 1", "0 2 2 2", "0");
        empty("q := mix 0 rho enc (1 2) 'a'", "0 2", "(0 0)");
        empty("q := mix 0 rho enc ''", "0 0", " ");
        fails("mix 0 1 1 1 rho enc 1 1 1 rho 1", LIMIT);
        empty("q := mix 2 0 rho enc 1000 2 0 rho 'a'", "2 0 1000 2 0", " ");
    }

    /** "split W: RANK 0: W. Else the extents but the last one, each item the VECTOR along that one BOXED". */
    private static void split() {
        shows("split 5 ; split enc 1 2 ; split 1 2 ; rho split 1 2 ; split 2 2 rho iota 4 ; rho split 2 3 4 rho 1", "5|(1 2)|(1 2)||(1 2) (3 4)|2 3");
        shows("split , 5 ; split 'ab' ; split 2 1 rho 5 6 ; split (1 2) 3", "(5)|(ab)|(5) (6)|((1 2) 3)");
        shows("x := 2 3 4 rho 1 ; y := 5 6 rho 1 ; rho split x", "2 3");
        // "(EMPTY ones with W's FILL; ..)"
        shows("split 2 0 rho 'a' ; enc first first split 2 0 rho 'a' ; split '' ; enc first first split ''", "() ()| |()| ");
        // "FILL: a BOX with such a VECTOR, all W's FILL; if it is EMPTY, with that FILL"
        empty("q := split 0 3 rho 'a'", "0", "(   )");
        empty("q := split 0 3 rho 5", "0", "(0 0 0)");
        empty("q := split 2 0 3 rho (1 2) 3", "2 0", "((0 0) (0 0) (0 0))");
        empty("q := split 0 0 rho 'a'", "0", "()");
        shows("x := 0 2 rho 'a' ; y := 3 take 1 2 ; enc first split x ; enc first first split 0 0 rho 'a'", "(  )| ");
        shows("tally split 500 1 rho 1", "500");
        fails("split 501 1 rho 1", LIMIT);
        fails("split 1000 rho 1", LIMIT);
        shows("depth split 999 rho 1", "2");
    }

    /** "enl W: the VECTOR of all NUMBERS and SIGNS in it .. (FILL: of the first one, 0 without any)." */
    private static void enlist() {
        shows("enl 5 ; rho enl 5 ; enl 1 (2 'a') (enc enc 3 4) ; enl 2 2 rho (1 2) 3 ; enl 'ab' 'c'", "5|1|1 2 a 3 4|1 2 3 1 2 3|abc");
        shows("3 take enl 'ab' ; 4 take enl (enc 'ab') 1 5", "ab |a b 1 5");
        empty("q := enl ''", "0", "0");
        empty("q := enl 0 rho enc 'ab'", "0", "0");
        empty("q := enl '' '' ''", "0", "0");
        empty("q := enl '' (0 rho enc 1 2)", "0", "0");
    }

    private static void reverse() {
        shows("rev 5 ; rev , 5 ; rev 1 2 3 ; rev 'ab' ; rev (1 2) 3 ; rev 2 3 rho iota 6 ; rev[1] 2 3 rho iota 6", "5|5|3 2 1|ba|3 (1 2)|[2 3]3 2 1 6 5 4|[2 3]4 5 6 1 2 3");
        shows("rev[2] 2 2 2 rho iota 8 ; rev[1] 2 2 2 rho iota 8 ; rev 2 2 2 rho iota 8", "[2 2 2]3 4 1 2 7 8 5 6|[2 2 2]5 6 7 8 1 2 3 4|[2 2 2]2 1 4 3 6 5 8 7");
        empty("q := rev ''", "0", " ");
        empty("q := rev[1] 0 3 rho 'a'", "0 3", " ");
        shows("rev enc 1 2", "(1 2)");
    }

    /** "A rot W: A holds WHOLES (DOMAIN), RANK 0, or the extents of W without the AXIS (RANK, LENGTH)". */
    private static void rotate() {
        shows("0 rot 1 2 3 ; 1 rot 1 2 3 ; 3 rot 1 2 3 ; 4 rot 1 2 3 ; _1 rot 1 2 3 ; _4 rot 1 2 3", "1 2 3|2 3 1|1 2 3|2 3 1|3 1 2|3 1 2");
        shows("2000000000 rot 1 2 3 ; _2000000000 rot 1 2 3 ; 1999999999 rot iota 7", "3 1 2|2 3 1|5 6 7 1 2 3 4");
        shows("1 2 rot 2 3 rho iota 6 ; 0 1 2 rot[1] 2 3 rho iota 6 ; 1 rot[1] 2 3 rho iota 6", "[2 3]2 3 1 6 4 5|[2 3]1 5 3 4 2 6|[2 3]4 5 6 1 2 3");
        shows("(2 2 rho 0 1 1 0) rot 2 2 2 rho iota 8 ; (2 2 rho 0 1 1 0) rot[1] 2 2 2 rho iota 8 ; (2 2 rho 0 1 1 0) rot[2] 2 2 2 rho iota 8",
            "[2 2 2]1 2 4 3 6 5 7 8|[2 2 2]1 6 7 4 5 2 3 8|[2 2 2]1 4 3 2 7 6 5 8");
        shows("rho (3 4 rho 0) rot[1] 2 3 4 rho 1 ; rho (2 4 rho 0) rot[2] 2 3 4 rho 1 ; rho (2 3 rho 0) rot 2 3 4 rho 1", "2 3 4|2 3 4|2 3 4");
        fails("(3 3 rho 0) rot[1] 2 3 4 rho 1", LENGTH);
        fails("(2 3 rho 0) rot[2] 2 3 4 rho 1", LENGTH);
        // "W of RANK 0 wants A of RANK 0: W"
        shows("3 rot 5 ; _3 rot enc 1 2 ; 3 rot , 5", "5|(1 2)|5");
        fails("(, 1) rot 5", RANK);
        fails("(, 1) rot 1 2 3", RANK);
        fails("'' rot 5", RANK);
        fails("(1 1 rho 1) rot 2 3 rho 1", RANK);
        fails("(2 2 rho 1) rot 2 3 rho 1", RANK);
        fails("1 2 3 rot 2 3 rho 1", LENGTH);
        fails("1 2 rot[1] 2 3 rho 1", LENGTH);
        fails("(2 3 rho 0) rot 2 4 5 rho 1", LENGTH);
        fails("(3 4 rho 0) rot 2 4 5 rho 1", LENGTH);
        for (String a : new String[] {"1r2", "'a'", "(enc 1 2)"}) {
            fails(a + " rot 1 2 3", DOMAIN);
            fails(a + " rot 5", DOMAIN);
            fails(a + " rot ''", DOMAIN);
        }
        empty("q := 5 rot ''", "0", " ");
        empty("q := 1 2 rot 2 0 rho 'a'", "2 0", " ");
        empty("q := '' rot 0 3 rho 'a'", "0 3", " ");
    }

    private static void transpose() {
        shows("tr 5 ; tr 1 2 ; tr 2 3 rho iota 6 ; rho tr 2 3 4 rho 1 ; rho tr 1 2 3 4 5 1 rho 1 ; tr enc 1 2", "5|1 2|[3 2]1 4 2 5 3 6|4 3 2|1 5 4 3 2 1|(1 2)");
        shows("tr 2 2 2 rho iota 8 ; tr 1 2 3 rho iota 6", "[2 2 2]1 5 3 7 2 6 4 8|[3 2 1]1 4 2 5 3 6");
        empty("q := tr 0 3 rho 'a'", "3 0", " ");
    }

    /** "A a vector, COUNT the RANK of W (LENGTH), .. each one up to the greatest of them there (INDEX)". */
    private static void transposeBy() {
        shows("1 tr 1 2 ; (0 rho 0) tr 5 ; '' tr enc 1 2 ; 1 2 tr 2 3 rho iota 6 ; 2 1 tr 2 3 rho iota 6", "1 2|5|(1 2)|[2 3]1 2 3 4 5 6|[3 2]1 4 2 5 3 6");
        shows("1 1 tr 2 3 rho iota 6 ; 1 1 tr 3 2 rho iota 6 ; rho 2 3 1 tr 2 3 4 rho 1 ; rho 3 1 2 tr 2 3 4 rho 1", "1 5|1 4|4 2 3|3 4 2");
        shows("rho 1 1 1 tr 2 3 4 rho 1 ; rho 2 1 2 tr 2 3 4 rho 1 ; rho 1 2 1 tr 2 3 4 rho 1 ; 1 1 1 tr 2 2 2 rho iota 8", "2|3 2|2 3|1 8");
        shows("rho 1 1 2 tr 2 3 4 rho 1 ; rho 2 1 1 tr 2 3 4 rho 1 ; rho 1 1 2 2 tr 2 3 4 5 rho 1", "2 4|3 2|2 4");
        shows("x := 2 3 4 rho iota 24 ; y := 1 1 1 rho 1 ; rho 3 2 1 tr x ; (3 2 1 tr x) match tr x", "4 3 2|1");
        fails("1 2 tr 1 2", LENGTH);
        fails("1 tr 5", LENGTH);
        fails("(0 rho 0) tr 1 2", LENGTH);
        fails("(1 1 rho 1) tr 1 2", RANK);
        fails("'a' tr 1 2", DOMAIN);
        fails("1r2 tr 1 2", DOMAIN);
        for (String a : new String[] {"0 1", "1 3", "2 2", "3 3", "3 1", "_1 1", "2000000000 1", "1 _2000000000"}) fails(a + " tr 2 3 rho 1", INDEX);
        fails("2 tr 1 2", INDEX);
        fails("1 3 1 tr 2 2 2 rho 1", INDEX);
        empty("q := 1 1 tr 0 3 rho 'a'", "0", " ");
        House x = new House();
        x.h.set(0, 0);
        due("ORIGIN 0", x.run("1 0 tr 2 3 rho iota 6 ; 1 2 tr 2 3 rho 1"), INDEX);
        due("ORIGIN 0", x.shown(), "[3 2]0 3 1 4 2 5\n");
    }

    /** "take: so many places, the first ones, below 0 the last ones; beyond W: FILLS." */
    private static void take() {
        shows("2 take 1 2 3 ; 3 take 1 2 3 ; 4 take 1 2 3 ; _2 take 1 2 3 ; _3 take 1 2 3 ; _4 take 1 2 3 ; 3 take 'ab' ; _3 take 'ab'",
            "1 2|1 2 3|1 2 3 0|2 3|1 2 3|0 1 2 3|ab | ab");
        shows("2 take (1 2) 3 ; 3 take (1 2) 3 ; _3 take (1 2) 3 ; (, 2) take 7 8 9", "(1 2) 3|(1 2) 3 (0 0)|(0 0) (1 2) 3|7 8");
        shows("1 2 take 2 3 rho iota 6 ; _1 _2 take 2 3 rho iota 6 ; 1 take 2 3 rho iota 6 ; 3 4 take 2 3 rho iota 6 ; _3 _4 take 2 3 rho iota 6",
            "[1 2]1 2|[1 2]5 6|[1 3]1 2 3|[3 4]1 2 3 0 4 5 6 0 0 0 0 0|[3 4]0 0 0 0 0 1 2 3 0 4 5 6");
        shows("(0 rho 0) take 1 2 3 ; (0 rho 0) take 2 2 rho iota 4 ; 1 _2 take 2 3 rho iota 6 ; '' take 5", "1 2 3|[2 2]1 2 3 4|[1 2]2 3|5");
        // "W of RANK 0 gets as many AXES of extent 1 as A has items"
        shows("3 take 5 ; _3 take 5 ; 1 take 5 ; rho 1 take 5 ; 2 2 take 5 ; _2 _2 take 5 ; rho 1 1 1 1 1 1 take 5 ; 2 take enc 1 2",
            "5 0 0|0 0 5|5|1|[2 2]5 0 0 0|[2 2]0 0 0 5|1 1 1 1 1 1|(1 2) (0 0)");
        empty("q := 0 take 'ab'", "0", " ");
        empty("q := 0 take 5", "0", "0");
        empty("q := 2 0 take 'a'", "2 0", " ");
        empty("q := 0 take (1 2) 3", "0", "(0 0)");
        shows("2 take '' ; _2 take 0 rho enc 1 2 ; 2 2 take 0 3 rho 'a'", "  |(0 0) (0 0)|[2 2]    ");
        fails("1 2 take 1 2", LENGTH);
        fails("1 1 1 take 2 2 rho 1", LENGTH);
        fails("1 1 1 1 1 1 1 take 1 1 1 1 1 1 rho 1", LENGTH);
        fails("1 1 1 1 1 1 1 take 5", LIMIT);
        fails("(1 1 rho 1) take 1 2", RANK);
        for (String a : new String[] {"1r2", "'a'", "(enc 1 2)"}) fails(a + " take 1 2", DOMAIN);
        fails("1001 take 1 2", LIMIT);
        fails("_1001 take 1 2", LIMIT);
        fails("_2000000000 take 1 2", LIMIT);
        fails("2000000000 take 5", LIMIT);
        fails("500 3 take 5", LIMIT);
    }

    /** "drop: without so many, the first ones, below 0 the last ones (none left: 0)." */
    private static void drop() {
        shows("0 drop 1 2 3 ; 1 drop 1 2 3 ; 2 drop 1 2 3 ; _1 drop 1 2 3 ; _2 drop 1 2 3", "1 2 3|2 3|3|1 2|1");
        shows("1 1 drop 2 3 rho iota 6 ; 1 drop 2 3 rho iota 6 ; _1 1 drop 2 3 rho iota 6 ; (0 rho 0) drop 1 2 ; '' drop 5", "[1 2]5 6|[1 3]4 5 6|[1 2]2 3|1 2|5");
        shows("0 drop 5 ; rho 0 drop 5 ; rho 0 0 drop 5 ; rho 1 0 drop 5 ; rho 0 0 0 0 0 0 drop 5", "5|1|1 1|0 1|1 1 1 1 1 1");
        for (String a : new String[] {"3", "_3", "4", "_4", "2000000000", "_2000000000"}) empty("q := " + a + " drop 'abc'", "0", " ");
        empty("q := 1 drop 5", "0", "0");
        empty("q := _1 drop 'a'", "0", " ");
        empty("q := 2 1 drop 2 3 rho 'a'", "0 2", " ");
        empty("q := 1 drop ''", "0", " ");
        empty("q := 2 drop (1 2) 3", "0", "(0 0)");
        fails("1 2 drop 1 2", LENGTH);
        fails("0 0 0 0 0 0 0 drop 5", LIMIT);
        fails("(1 1 rho 1) drop 1 2", RANK);
        for (String a : new String[] {"1r2", "'a'", "(enc 1 2)"}) fails(a + " drop 1 2", DOMAIN);
    }

    /** "with COUNT 1 for all places, else the extent (LENGTH; a W with extent 1 there is as often there as A has items)". */
    private static void replicate() {
        shows("2 rep 1 2 ; 0 rep 1 2 ; (, 2) rep 1 2 ; 2 0 1 rep 4 5 6 ; _1 rep 1 2 ; 1 _2 rep 'ab' ; 2 _1 0 rep (1 2) 3 4", "1 1 2 2||1 1 2 2|4 4 6|0 0|a  |(1 2) (1 2) (0 0)");
        shows("3 rep 5 ; rho 3 rep 5 ; 1 2 rep 5 ; 1 _2 1 rep 5 ; 1 0 2 rep , 7 ; 2 rep enc 1 2", "5 5 5|3|5 5 5|5 0 0 5|7 7 7|(1 2) (1 2)");
        shows("1 2 rep 2 2 rho iota 4 ; 1 2 rep[1] 2 2 rho iota 4 ; 1 0 2 rep 2 1 rho 7 8 ; 1 2 rep[1] 1 2 rho 5 6 ; _1 2 rep 2 2 rho iota 4",
            "[2 3]1 2 2 3 4 4|[3 2]1 2 3 4 3 4|[2 3]7 7 7 8 8 8|[3 2]5 6 5 6 5 6|[2 3]0 2 2 0 4 4");
        shows("x := 2 2 2 rho iota 8 ; 0 2 rep[2] x ; 0 1 rep[1] x ; 1 0 rep x", "[2 2 2]3 4 3 4 7 8 7 8|[1 2 2]5 6 7 8|[2 2 1]1 3 5 7");
        empty("q := 0 rep 'ab'", "0", " ");
        empty("q := 5 rep ''", "0", " ");
        empty("q := '' rep ''", "0", " ");
        empty("q := '' rep 'a'", "0", " ");
        empty("q := '' rep , 'a'", "0", " ");
        empty("q := (0 rho 1) rep 2 1 rho 'a'", "2 0", " ");
        empty("q := 0 0 rep 1 2", "0", "0");
        fails("1 2 rep 1 2 3", LENGTH);
        fails("'' rep 1 2", LENGTH);
        fails("1 2 rep ''", LENGTH);
        fails("1 2 3 rep 1 2", LENGTH);
        fails("(1 1 rho 1) rep 1 2", RANK);
        for (String a : new String[] {"1r2", "'a'", "(enc 1 2)"}) fails(a + " rep 1 2", DOMAIN);
        fails("1001 rep 5", LIMIT);
        fails("_1001 rep 5", LIMIT);
        fails("501 rep 1 2", LIMIT);
        fails("500 _501 rep 1 2", LIMIT);
        fails("2000000000 2000000000 rep 1 2", LIMIT);
        fails("_2000000000 rep 5", LIMIT);
        shows("tally 500 _500 rep 1 2 ; tally 1000 rep 5", "1000|1000");
    }

    /** "A a vector of 0, 1 (DOMAIN, looked at ahead of LENGTH), as many 1s as the extent, or the extent is 1 (LENGTH)". */
    private static void expand() {
        shows("1 0 1 expand 4 5 ; 0 1 0 1 0 expand 'ab' ; 1 1 expand 4 5 ; 0 1 0 1 expand (1 2) 3", "4 0 5| a b |4 5|(0 0) (1 2) (0 0) 3");
        shows("1 0 1 expand 7 ; 1 0 1 expand , 7 ; 0 expand 7 ; 1 expand 7 ; rho 1 expand 7 ; 1 1 1 expand , 'a' ; 0 0 expand 'a'", "7 0 7|7 0 7|0|7|1|aaa|  ");
        shows("a := 1 0 1 ; b := 2 2 rho 1 ; a expand 7 ; a expand 2 2 rho iota 4 ; a expand[1] 2 2 rho iota 4", "7 0 7|[2 3]1 0 2 3 0 4|[3 2]1 2 0 0 3 4");
        shows("1 0 1 expand 2 1 rho 5 6 ; 1 0 1 expand[1] 1 2 rho 5 6 ; 0 0 expand '' ; rho 0 0 expand 2 0 rho 1", "[2 3]5 0 5 6 0 6|[3 2]5 6 0 0 5 6|  |2 2");
        empty("q := '' expand ''", "0", " ");
        empty("q := '' expand 'a'", "0", " ");
        empty("q := (0 rho 1) expand , 'a'", "0", " ");
        empty("q := 0 1 expand[1] 1 0 rho 'a'", "2 0", " ");
        for (String a : new String[] {"1 0", "1 1 1", "0 0", "1", "0", "''"}) fails(a + " expand 4 5", LENGTH);
        fails("1 expand ''", LENGTH);
        for (String a : new String[] {"2", "_1", "1 _1", "1r2", "'a'", "1 0 2", "(enc 1 1)"}) fails(a + " expand 4 5", DOMAIN);
        fails("2 expand 7", DOMAIN);
        fails("(1 1 rho 1) expand 4 5", RANK);
        fails("(1 1 rho 2) expand 4 5", RANK);
        fails("(1000 rho 1) expand 2 1 rho 1", LIMIT);
        shows("rho (1000 rho 0 1) expand 500 rho 1", "1000");
    }

    private static void unique() {
        shows("uniq 5 ; rho uniq 5 ; uniq 1 2 1 3 2 ; uniq 'hello' ; uniq (1 2) 3 (1 2) 3 ; uniq 1 '1' (, 1)", "5|1|1 2 3|helo|(1 2) 3|1 1 (1)");
        shows("tally uniq '' (0 rho 0) '' ; tally uniq 1000 rho 5 ; tally uniq iota 1000", "2|1|1000");
        empty("q := uniq ''", "0", " ");
        empty("q := uniq 0 rho enc 1 2", "0", "(0 0)");
        fails("uniq 1 1 rho 1", RANK);
        fails("uniq 0 2 rho 1", RANK);
    }

    /** "(all as often as there; FILL of all three: A's)". */
    private static void sets() {
        shows("1 2 1 3 without 2 ; 1 2 1 3 without 1 3 ; 5 without 6 ; rho 5 without 6 ; 'abca' without 'a' ; (1 2) 3 without enc 1 2", "1 1 3|2|5|1|bc|3");
        shows("1 2 1 union 2 3 3 ; 5 union 5 ; 5 union 6 ; '' union 1 1 ; 1 1 union '' ; (1 2) 3 union (1 2) 4", "1 2 1 3 3|5|5 6|1 1|1 1|(1 2) 3 4");
        shows("1 2 1 3 inter 1 3 ; 1 1 inter 1 ; 5 inter 5 ; rho 5 inter 5 ; 'abca' inter 'ac' ; 1 '1' inter '1'", "1 1 3|1 1|5|1|aca|1");
        for (String f : new String[] {"without", "union", "inter"}) {
            fails("(1 1 rho 1) " + f + " 1", RANK);
            fails("1 " + f + " 1 1 rho 1", RANK);
            empty("q := '' " + f + " 0 rho 1", "0", " ");
            empty("q := (0 rho 1) " + f + " ''", "0", "0");
        }
        empty("q := 'a' without 'a'", "0", " ");
        empty("q := 'a' inter 1", "0", " ");
        empty("q := ((1 2) 3) without 3 , enc 1 2", "0", "(0 0)");
        shows("tally (iota 500) union 500 + iota 500", "1000");
        fails("(iota 500) union 500 + iota 501", LIMIT);
        fails("(iota 1000) union 0", LIMIT);
    }

    /** "up W, down W: RANK 0: RANK. .. of what is the same the lesser place first (FILL 0)." */
    private static void grades() {
        shows("up 3 1 2 ; down 3 1 2 ; up , 5 ; up 2 2 2 ; down 2 2 2 ; up 2 1 2 1 ; down 2 1 2 1", "2 3 1|1 3 2|1|1 2 3|1 2 3|2 4 1 3|1 3 2 4");
        shows("up 4 3 rho 1 2 3 1 2 2 1 1 9 1 2 3 ; down 4 3 rho 1 2 3 1 2 2 1 1 9 1 2 3", "3 2 1 4|1 4 2 3");
        shows("up 3 2 2 rho 2 2 2 2 2 2 2 1 1 9 9 9 ; up 2 1 rho 5 4 ; up 1 3 rho 1", "3 2 1|2 1|1");
        shows("x := 3 0 rho 1 ; y := 9 8 ; up x ; down x ; up 5 0 2 rho 'a'", "1 2 3|1 2 3|1 2 3 4 5");
        fails("up 5", RANK);
        fails("down 5", RANK);
        fails("up enc 1 2", RANK);
        empty("q := up ''", "0", "0");
        empty("q := down 0 3 rho 'a'", "0", "0");
        shows("(up rev iota 1000) match rev iota 1000 ; (down iota 1000) match rev iota 1000 ; (up 1000 rho 5) match iota 1000", "1|1|1");
        shows("(up 7 rho 3 1 2) match 2 5 3 6 1 4 7", "1");
    }

    /** "iota W: W a vector of WHOLES 0 .. (DOMAIN). COUNT 1: ORIGIN, ORIGIN + 1, .. so many. Else W are extents". */
    private static void iota() {
        shows("iota 3 ; iota , 3 ; iota 1 ; rho iota 1 ; iota 2 2 ; iota 1 1 1 ; iota 2 1", "1 2 3|1 2 3|1|1|[2 2](1 1) (1 2) (2 1) (2 2)|[1 1 1](1 1 1)|[2 1](1 1) (2 1)");
        shows("rho iota 0 rho 0 ; iota '' ; depth iota '' ; first iota ''", "|()|2|");
        empty("q := iota 0", "0", "0");
        empty("q := iota 2 0", "2 0", "(0 0)");
        empty("q := iota 0 3 4", "0 3 4", "(0 0 0)");
        empty("q := first iota ''", "0", "0");
        for (String w : new String[] {"_1", "1r2", "'a'", "(enc 1 2)", "2 _1", "2 'a'"}) fails("iota " + w, DOMAIN);
        fails("iota 1 1 rho 1", RANK);
        fails("iota 1001", LIMIT);
        fails("iota 2000000000", LIMIT);
        fails("iota 0 1001", LIMIT);
        fails("iota 2 167", LIMIT);
        shows("rho iota 2 166 ; rho iota 333 1 ; rho iota 250 1 1 ; rho iota 0 1000", "2 166|333 1|250 1 1|0 1000");
        fails("iota 334 1", LIMIT);
        fails("iota 251 1 1", LIMIT);
        fails("iota 7 rho 0", LIMIT);
    }

    /** "A iota W: A is a VECTOR (RANK): for each item of W the place of the first ALIKE one in A, else ORIGIN + COUNT of A". */
    private static void indexOf() {
        shows("4 5 4 iota 4 5 6 ; (, 4) iota 4 ; '' iota 'ab' ; 'abc' iota 2 2 rho 'cax' ; ((1 2) 3) iota enc 1 2 ; (1 '1') iota '1'",
            "1 2 4|1|1 1|[2 2]3 1 4 3|1|2");
        empty("q := 1 2 iota ''", "0", "0");
        empty("q := 1 2 iota 0 3 rho 'a'", "0 3", "0");
        fails("5 iota 5", RANK);
        fails("(1 1 rho 5) iota 5", RANK);
        fails("5 iota ''", RANK);
        shows("(iota 1000) iota 1000 1001", "1000 1001");
    }

    /** "where W: RANK 0: RANK; WHOLES 0 .. (DOMAIN): the places, each so often". */
    private static void where() {
        shows("where 1 0 1 ; where 0 3 1 ; where 2 2 rho 1 0 2 1 ; where , 2 ; where 1 1 1 rho 1 ; rho where 1 1 rho 0", "1 3|2 2 2 3|(1 1) (2 1) (2 1) (2 2)|1 1|(1 1 1)|0");
        empty("q := where 0 0", "0", "0");
        empty("q := where ''", "0", "0");
        empty("q := where 1 2 rho 0", "0", "(0 0)");
        empty("q := where 0 3 2 rho 1", "0", "(0 0 0)");
        fails("where 1", RANK);
        fails("where enc 1 2", RANK);
        for (String w : new String[] {"_1 0", "1r2 0", "'ab'", "1 (1 2)"}) fails("where " + w, DOMAIN);
        shows("tally where , 1000 ; tally where 500 500 ; tally where 1 1 rho 333", "1000|1000|333");
        fails("where , 1001", LIMIT);
        fails("where 500 501", LIMIT);
        fails("where 1 1 rho 334", LIMIT);
        fails("where 1000 2000000000 1", LIMIT);
    }

    private static void member() {
        shows("1 5 2 mem 1 2 ; 5 mem 5 ; 5 mem 6 ; 'a' mem 'abc' ; (2 2 rho 1 2 3 4) mem 1 4 ; 1 (1 2) mem 3 , enc 1 2", "1 0 1|1|0|1|[2 2]1 0 0 1|0 1");
        shows("1 2 mem '' ; '1' mem 1 ; (, 1) mem 2 2 rho 5 1 ; rho 5 mem 1 1 rho 5", "0 0|0|1|");
        empty("q := '' mem 'a'", "0", "0");
        empty("q := (0 2 rho 'a') mem 1", "0 2", "0");
    }

    /** "A find W: the extents of W: 1 where A stands, its first item there, whole in W". */
    private static void find() {
        shows("'an' find 'banana' ; 'a' find 'banana' ; 'ana' find 'banana' ; 'x' find 'abx' ; 'abx' find 'abx' ; 'abxy' find 'abx'", "0 1 0 1 0 0|0 1 0 1 0 1|0 1 0 1 0 0|0 0 1|1 0 0|0 0 0");
        shows("(2 2 rho 1 2 4 5) find 3 3 rho iota 9 ; (2 2 rho 5 6 8 9) find 3 3 rho iota 9 ; (2 2 rho 6 7 9 1) find 3 3 rho iota 9",
            "[3 3]1 0 0 0 0 0 0 0 0|[3 3]0 0 0 0 1 0 0 0 0|[3 3]0 0 0 0 0 0 0 0 0");
        shows("(2 2 rho 1 2 4 6) find 3 3 rho iota 9 ; (2 1 rho 1 4) find 3 3 rho iota 9 ; (2 3 rho iota 6) find 3 3 rho iota 9",
            "[3 3]0 0 0 0 0 0 0 0 0|[3 3]1 0 0 0 0 0 0 0 0|[3 3]1 0 0 0 0 0 0 0 0");
        // "A of lesser RANK gets extents of 1 ahead; of a greater one all are 0"
        shows("1 2 find 2 2 rho 1 2 1 2 ; 1 2 find 2 2 rho 3 1 2 9 ; 5 find 2 2 rho 5 1 ; (1 2 rho 1) find 1 1 ; (, 5) find 5 ; (2 2 rho 1) find 2 2 2 rho 1",
            "[2 2]1 0 1 0|[2 2]0 0 0 0|[2 2]1 0 1 0|0 0|0|[2 2 2]1 0 0 0 1 0 0 0");
        shows("1 2 3 find 2 3 rho iota 6 ; 4 5 find 2 3 rho iota 6 ; 2 3 find 3 2 rho iota 6 ; 3 4 find 3 2 rho iota 6 ; 5 6 find 1 2 3 rho iota 6",
            "[2 3]1 0 0 0 0 0|[2 3]0 0 0 1 0 0|[3 2]0 0 0 0 0 0|[3 2]0 0 1 0 0 0|[1 2 3]0 0 0 0 1 0");
        shows("5 find 5 ; 5 find 6 ; (enc 1 2) find (1 2) 3 ; (1 2) 3 find 3 (1 2) 3 ; 2 1 find 1 2 1", "1|0|1 0|0 1 0|0 1 0");
        // "(an EMPTY A: where its extents go into W from there)"
        shows("'' find 'ab' ; (0 rho 1) find 'ab' ; (3 0 rho 1) find 3 2 rho 1 ; (0 2 rho 1) find 2 2 rho 1 ; (2 0 rho 1) find 1 2 rho 1 ; (0 3 rho 1) find 2 2 rho 1 ; '' find 5",
            "1 1|1 1|[3 2]1 1 0 0 0 0|[2 2]1 0 1 0|[1 2]0 0|[2 2]0 0 0 0|0");
        empty("q := 'a' find ''", "0", "0");
        empty("q := '' find 0 3 rho 'a'", "0 3", "0");
    }

    /** "each item, .., OPENED, is a vector of as many items as the RANK of what is at hand (RANK), WHOLES (DOMAIN), places (INDEX)". */
    private static void pick() {
        shows("2 pick 4 5 6 ; (, 2) pick 4 5 6 ; 2 1 pick 1 (5 6) ; (enc 1 2) pick 2 2 rho 7 8 9 1 ; ((1 2) 1) pick 2 2 rho 7 (8 9)", "5|5|5|8|8");
        shows("(0 rho 0) pick 5 6 ; '' pick 5 ; 1 pick (1 2) 3 ; rho 1 pick , 5 ; (enc , 1) pick 7 8", "5 6|5|1 2||7");
        shows("(enc 2 1) pick 2 3 rho iota 6 ; (enc 2 3) pick 2 3 rho iota 6 ; (enc 2 1 2) pick 2 2 2 rho iota 8 ; (enc 1 3 2) pick 1 3 4 rho iota 12", "4|6|6|10");
        shows("(enc '') pick 5 ; (enc '') pick enc 1 2 ; (2 rho enc '') pick enc enc 1 2 ; ((enc '') , 2) pick enc 7 8", "5|1 2|1 2|8");
        fails("1 pick 5", RANK);
        fails("1 1 pick 5 6", RANK);
        fails("(1 1 rho 1) pick 5 6", RANK);
        fails("(enc 1 2) pick 5 6", RANK);
        fails("(enc '') pick 5 6", RANK);
        fails("(enc 1 1 rho 1) pick 5 6", RANK);
        fails("(enc 1 1 1) pick 2 2 rho 1", RANK);
        fails("1 pick 2 2 rho 1", RANK);
        fails("'a' pick 5 6", DOMAIN);
        fails("1r2 pick 5 6", DOMAIN);
        fails("(enc enc 1 1) pick 5 6", DOMAIN);
        fails("(enc 9 'a') pick 2 2 rho 1", DOMAIN);
        for (String a : new String[] {"3", "0", "_1", "2000000000"}) fails(a + " pick 5 6", INDEX);
        fails("1 pick ''", INDEX);
        fails("(enc 1 3) pick 2 2 rho 1", INDEX);
        // "(Each item's events ahead of the next one's.)"
        fails("3 'a' pick 5 6", INDEX);
        fails("'a' 3 pick 5 6", DOMAIN);
        fails("3 (1 1 rho 1) pick 5 6", INDEX);
        fails("1 1 1 pick (enc 3 4) 5", RANK);
    }

    private static void match() {
        shows("5 match 5 ; 5 match , 5 ; '' match '' ; '' match 0 rho 0 ; (1 (2 3)) match 1 (2 3) ; (0 3 rho 1) match 3 0 rho 1", "1|0|1|0|1|0");
    }

    /** "A part W: vectors of the same COUNT (LENGTH), A WHOLES 0 .. (DOMAIN)"; "A penc W: likewise, A 0, 1 (DOMAIN)". */
    private static void parts() {
        shows("1 1 2 2 1 part 'abcde' ; 1 0 1 1 part 5 6 7 8 ; 2 1 3 0 1 part 'abcde' ; 0 0 1 part 'abc' ; 3 2 1 part 'abc' ; 1 2 3 part 'abc'",
            "(ab) (cde)|(5) (7 8)|(ab) (c) (e)|(c)|(abc)|(a) (b) (c)");
        shows("1 part 5 ; 2000000000 part 'a' ; (, 1) part 5 ; 1 part , 5 ; 1 1 part (1 2) 3", "(5)|(a)|(5)|(5)|((1 2) 3)");
        shows("0 1 0 1 0 penc 'abcde' ; 1 1 penc 5 6 ; 1 0 0 penc 'abc' ; 0 0 1 penc 'abc' ; 1 penc 5", "(bc) (de)|(5) (6)|(abc)|(c)|(5)");
        for (String f : new String[] {"part", "penc"}) {
            fails("1 1 " + f + " 'abc'", LENGTH);
            fails("1 " + f + " 'ab'", LENGTH);
            fails("1 1 " + f + " 'a'", LENGTH);
            fails("'' " + f + " 'a'", LENGTH);
            fails("1 1 " + f + " 1 2 rho 1", RANK);
            fails("(1 2 rho 1) " + f + " 1 1", RANK);
            for (String a : new String[] {"_1 1", "1r2 1", "'ab'", "1 (1 2)"}) fails(a + " " + f + " 'ab'", DOMAIN);
            empty("q := 0 0 " + f + " 'ab'", "0", "()");
            empty("q := 0 " + f + " 5", "0", "()");
            empty("q := '' " + f + " ''", "0", "()");
            empty("q := first 0 0 " + f + " 'ab'", "0", " ");
            empty("q := first 0 " + f + " enc 1 2", "0", "(0 0)");
        }
        fails("2 1 penc 'ab'", DOMAIN);
        fails("(iota 501) part iota 501", LIMIT);
        shows("tally (iota 500) part iota 500", "500");
        fails("(501 rho 1) penc 501 rho 1", LIMIT);
    }

    /** "extents of A (none for RANK 0), then of W; .. a | v, then, if it was not the first of A, v becomes FLOOR(v / a)". */
    private static void encode() {
        shows("2 2 2 enco 5 ; 10 enco 17 ; rho 10 enco 17 ; rho (, 10) enco 17 ; 24 60 enco 100 200 ; rho 2 2 enco 3 4 rho 1", "1 0 1|7||1|[2 2]1 3 40 20|2 3 4");
        shows("2 2 enco 2 2 rho iota 4 ; 10 10 enco 123 ; 10 10 enco _1 ; 3r2 2 enco 7r2", "[2 2 2]0 1 1 0 1 0 1 0|2 3|9 9|1 3r2");
        // "(0 if a is 0; LIMIT)"
        shows("0 10 enco 123 ; 10 0 enco 123 ; 0 enco 123 ; 1 0 1 enco 7r2 ; 0 0 enco 5", "12 3|0 123|123|0 3 1r2|0 5");
        shows("1r2 enco 2000000000 ; 1 1r2 enco 1000000000 ; 1 1r2 enco _1000000000 ; 1 1 enco 2000000000", "0|0 0|0 0|0 0");
        fails("1 1r2 enco 2000000000", LIMIT);
        fails("1 1r2 enco 1000000001", LIMIT);
        fails("1 1r2 enco _1000000001", LIMIT);
        fails("1 1r2 enco 1 1000000001", LIMIT);
        fails("1r65537 enco 2r65539", LIMIT);
        fails("(1 1 rho 2) enco 1", RANK);
        fails("'a' enco 1", DOMAIN);
        fails("2 'a' enco 1", DOMAIN);
        fails("2 enco 'a'", DOMAIN);
        fails("2 enco 1 (2 3)", DOMAIN);
        fails("(enc 1 2) enco 1", DOMAIN);
        fails("(500 rho 2) enco 1 2 3", LIMIT);
        shows("rho (500 rho 2) enco 1 2", "500 2");
        empty("q := (0 rho 0) enco 1 2", "0 2", "0");
        empty("q := '' enco 5", "0", "0");
        empty("q := 2 2 enco ''", "2 0", " ");
        empty("q := 2 enco 0 3 rho 'a'", "0 3", " ");
        fails("'a' enco ''", DOMAIN);
    }

    /** "vectors, of the same COUNT, or A has COUNT 1 (LENGTH), NUMBERS (DOMAIN): v is 0, then for each item w, .., v a + w". */
    private static void decode() {
        shows("2 deco 1 0 1 ; 24 60 60 deco 1 1 1 ; 2 deco 5 ; (, 2) deco 1 1 ; 1r2 deco 1 1 ; 7 8 deco 1 1 ; rho 2 deco 1 0", "5|3661|5|3|3r2|9|");
        shows("2 deco '' ; '' deco '' ; 10 deco 0 0 5 ; _1 deco 1 2 3 ; 0 deco 4 5 ; 2000000000 0 deco 1 5", "0|0|5|2|5|5");
        fails("2 2 deco 1 1 1", LENGTH);
        fails("2 2 deco 1", LENGTH);
        fails("'' deco 1", LENGTH);
        fails("2 2 deco ''", LENGTH);
        fails("(1 1 rho 2) deco 1", RANK);
        fails("2 deco 1 1 rho 1", RANK);
        fails("'a' deco 1", DOMAIN);
        fails("2 deco 'a'", DOMAIN);
        fails("'a' deco ''", DOMAIN);
        fails("2 deco 1 (2 3)", DOMAIN);
        fails("2000000000 deco 2 2 'a'", DOMAIN);
        // "(first the product, then the sum, is a NUMBER: LIMIT)"
        fails("2 deco 1000000001 _2000000000", LIMIT);
        shows("2 deco 1000000000 _2000000000 ; 2 deco 1000000000 0 ; 2000000000 deco 1 0", "0|2000000000|2000000000");
        fails("2 deco 1000000000 1", LIMIT);
        fails("1r2 deco 1r2000000000 0", LIMIT);
    }

    /** "A ? W: COUNT 1 each (LENGTH), WHOLES 0 .. , A not above W (DOMAIN), W 1000 at most (LIMIT)". */
    private static void deal() {
        shows("1 ? 1 ; 3 ? 5 ; (, 3) ? 1 1 rho 5 ; rho 0 ? 0 ; rho 0 ? 1000 ; rho 1000 ? 1000", "1|5 3 1|1 2 3|0|0|1000");
        shows("x := 1000 ? 1000 ; (up up x) match x ; (uniq x) match x ; +/x", "1|1|500500");
        for (String text : new String[] {"2 ? 1", "1 ? 0", "_1 ? 5", "1r2 ? 5", "'a' ? 5", "1 ? 'a'", "1 ? 7r2", "(enc 1 1) ? 5", "0 ? _1", "1002 ? 1001", "_1 ? 1001"}) {
            fails(text, DOMAIN);
        }
        for (String text : new String[] {"1 2 ? 5", "1 ? 5 6", "'' ? 5", "1 ? ''", "1 2 ? 1001"}) fails(text, LENGTH);
        for (String text : new String[] {"1 ? 1001", "0 ? 1001", "1001 ? 1001", "0 ? 2000000000"}) fails(text, LIMIT);
        empty("q := 0 ? 5", "0", "0");
        House x = new House();
        x.h.set(0, 0);
        due("ORIGIN 0", x.run("5 ? 5 ; 0 ? 5 ; 6 ? 5"), DOMAIN);
        due("LINK went on five times", x.h.told(6), 1144108930);
        due("ORIGIN 0", x.shown(), "2 0 4 3 1\n\n");
    }

    /** "fmt W: its text, a VECTOR of SIGNS (FILL blank)". */
    private static void format() {
        shows("fmt 5 ; rho fmt 5 ; fmt _5 ; fmt 1r2 ; fmt _1r2 ; fmt 0 ; fmt 2000000000 ; fmt _2000000000r1999999999 ; fmt 'a' ; rho fmt 'a'",
            "5|1|_5|1r2|_1r2|0|2000000000|_2000000000r1999999999|a|1");
        shows("fmt 1 2 ; fmt 'ab' ; fmt 1 'a' ; fmt 'a' 1 ; fmt (1 2) 'ab' ; fmt enc 1 2 ; fmt enc 'ab' ; fmt , 5 ; fmt enc enc 'ab' ; fmt ' '", "1 2|ab|1 a|a 1|(1 2) (ab)|(1 2)|(ab)|5|((ab))| ");
        shows("fmt 2 2 rho iota 4 ; fmt 2 2 rho 'abcd' ; fmt 1 1 1 rho 5 ; fmt 1 2 rho 'a' 1 ; fmt enc 1 1 rho 5 ; fmt 0 3 rho 1 ; fmt 2 0 rho 'a'",
            "[2 2]1 2 3 4|[2 2]abcd|[1 1 1]5|[1 2]a 1|([1 1]5)|[0 3]|[2 0]");
        shows("fmt '' 5 ; fmt enc '' ; fmt 1000 0 rho 1", "() 5|()|[1000 0]");
        empty("q := fmt ''", "0", " ");
        empty("q := fmt 0 rho 5", "0", " ");
        shows("tally fmt 1000 rho 'a' ; tally fmt 500 rho 1 ; tally fmt (499 rho 1) , 12", "1000|999|1000");
        fails("fmt 501 rho 1", LIMIT);
        fails("fmt (499 rho 1) , 123", LIMIT);
        fails("fmt 1000 rho 1", LIMIT);
        fails("fmt 1 1000 rho 'a'", LIMIT);
        shows("{7 :: 'long' ; fmt 1000 rho 1} 0 ; fmt 5", "long|5");
        House x = new House();
        due("SHOWN however long it is", x.run("1000 rho 1r2000000000"), 0);
        due("SHOWN however long it is", x.h.shown(), 8000);
        due("fmt behind what was too long", x.run("fmt 12"), 0);
        due("fmt behind what was too long", x.shown(), "12\n");
    }

    /** An EMPTY vector has no item that could be wrong, whatever its FILL. */
    private static void emptyOfBoxes() {
        String e = "e := 0 rho enc 1 2 ; ";
        shows(e + "e rho 5 6 ; e take 5 6 ; e drop 5 6 ; e tr 5 ; e pick 5 6 ; depth iota e ; e deco e ; 7 deco e ; tally e enco 5 ; e match 0 rho enc 3 4",
            "5|5 6|5 6|5|5 6|2|0|0|0|1");
        empty(e + "q := e rep 'a'", "0", " ");
        empty(e + "q := e expand ''", "0", " ");
        empty(e + "q := e part ''", "0", "()");
        empty(e + "q := e penc e", "0", "()");
        empty(e + "q := 2 enco e", "0", "(0 0)");
        empty(e + "q := where e", "0", "0");
        empty(e + "q := fmt e", "0", " ");
        empty(e + "q := 'abc'[e]", "0", " ");
        empty(e + "q := e without 5", "0", "(0 0)");
        fails(e + "e ? 5", LENGTH);
        fails(e + "5 ? e", LENGTH);
        fails("(0 rho enc '') ? 5", LENGTH);
        fails("1 ? 0 rho enc ''", LENGTH);
        fails(e + "rev[e] 1 2", LENGTH);
        fails(e + "rev[0 rho enc ''] 1 2", LENGTH);
        fails(e + "+ rank (0 rho enc '') 5", LENGTH);
        fails(e + "+ pow (0 rho enc '') 5", LENGTH);
        fails(e + "(0 rho enc '') +/1 2", LENGTH);
        fails(e + "{(0 rho enc '') : 5} 0", LENGTH);
        fails(e + "exe e", VALUE);
        shows(e + "x := 1 2 3 ; (0 rho enc x) := 5 ; x[e] := 6 ; x ; e + 1 ; rho e + e", "1 2 3||0");
    }

    /** What a function gives does not hang on the extents or FILLS of what was made ahead of it. */
    private static void noStaleExtents() {
        String spoil = "x := 2 3 rho iota 6 ; w := 3 4 rho iota 12 ; c := 'abc' ; s := 4 5 6 1 1 1 rho 1 ; f := 3 take %s ; ";
        String[][] rows = {{"rev x", "[2 3]3 2 1 6 5 4"}, {"+/[1] x", "5 7 9"}, {"2 +/x", "[2 2]3 5 9 11"}, {"2 +/[1] x", "[1 3]5 7 9"},
            {"+\\x", "[2 3]1 3 6 4 9 15"}, {"tr x", "[3 2]1 4 2 5 3 6"}, {"x +.* w", "[2 4]38 44 50 56 83 98 113 128"}, {"x , x", "[2 6]1 2 3 1 2 3 4 5 6 4 5 6"},
            {"x ,[1r2] x", "[2 2 3]1 2 3 4 5 6 1 2 3 4 5 6"}, {"split x", "(1 2 3) (4 5 6)"}, {"- x", "[2 3]_1 _2 _3 _4 _5 _6"}, {"x + 1", "[2 3]2 3 4 5 6 7"},
            {"-\" x", "[2 3]_1 _2 _3 _4 _5 _6"}, {"rho x +@ w", "2 3 3 4"}, {"rho {right} rank 1 x", "2 3"}, {"1 drop x", "[1 3]4 5 6"},
            {"1 0 2 rep x", "[2 3]1 3 3 4 6 6"}, {"4 take c", "abc "}, {"c[]", "abc"}, {"x[;2]", "2 5"}, {"2 2 enco x", "[2 2 3]0 1 1 0 0 1 1 0 1 0 1 0"},
            {"x mem 2", "[2 3]0 1 0 0 0 0"}, {"5 find x", "[2 3]0 0 0 0 1 0"}, {"1 _1 1 rep c", "a c"}};
        for (String[] row : rows) {
            shows(spoil.replace("%s", "1 2") + row[0], row[1]);
            shows(spoil.replace("%s", "'ab'") + row[0], row[1]);
        }
    }
}
