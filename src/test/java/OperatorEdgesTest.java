/** Head 8 of the document's Terms, sentence by sentence: what operators make. */
public final class OperatorEdgesTest extends House {
    public static void main(String[] args) {
        itemsAreOpened();
        argumentsWanted();
        reduce();
        reduceNone();
        reduceNothing();
        reduceNoneOfOthers();
        reduceWrongly();
        windows();
        windowsOfNone();
        windowsWrongly();
        running();
        each();
        eachPair();
        eachNothing();
        swap();
        outer();
        inner();
        innerExtents();
        innerNone();
        rank();
        rankOfTwo();
        rankWrongly();
        rankOfNothing();
        rankMixes();
        pow();
        keyAlone();
        keyOfTwo();
        keyWrongly();
        ahead();
        behind();
        inOrder();
        end();
    }

    /** "what they give is BOXED as an item, what they get is an item OPENED". */
    private static void itemsAreOpened() {
        shows("{right}\" 1 (2 3) ; {rho right}\" 1 (2 3) ; {enc right}\" 1 (2 3) ; tally\" (1 2) 'abc' 5 ; {5 6}\" 1 2", "1 (2 3)|() (2)|1 ((2 3))|2 3 1|(5 6) (5 6)");
        shows("{left right}/ (1 2) (3 4) ; depth {left right}/ (1 2) (3 4) ; {right}/ (1 2) 3 ; {left}/ (1 2) 3 ; {left}/ , enc 1 2", "((1 2) (3 4))|3|3|(1 2)|(1 2)");
        shows("(1 2) 3 {left right}@ 4 (5 6) ; 1 2 {left right}\" (3 4) 5", "[2 2]((1 2) 4) ((1 2) (5 6)) (3 4) (3 (5 6))|(1 (3 4)) (2 5)");
    }

    /** "Without A where it is wanted, with A where it can't be: SYNTAX." */
    private static void argumentsWanted() {
        ends("+@ 1", SYNTAX, 4);
        ends("+.* 1", SYNTAX, 5);
        ends("1 +\\ 2", SYNTAX, 5);
        fails("+@\" 1 2", SYNTAX);
        fails("1 2 +\\\" 3 4", SYNTAX);
        fails("1 +\\~ 2", SYNTAX);
        shows("+@~ 5 ; 1 +/ , 2 ; +/ 2 ; 1 +\" 2 ; +\" 2 ; 1 +~ 2 ; +~ 2 ; 1 + rank 0 2 ; + rank 0 2 ; 1 + pow 1 2 ; + pow 1 2 ; 1 + key 1",
            "10|2|2|3|2|3|4|3|2|3|2|[1 1]2");
    }

    /** "f/ W: along the AXIS (W of RANK 0: W): of each row of items: the last one; then, .., that one f what there is." */
    private static void reduce() {
        shows("+/5 ; +/'a' ; +/enc 1 2 ; {1 % 0}/5", "5|a|(1 2)|5");
        shows("-/1 2 3 4 ; {left , right}/1 2 3 ; {left}/1 2 3 ; {right}/1 2 3 ; %/8 4 2", "_2|(1 2 3)|1|3|4");
        shows("+/2 3 rho iota 6 ; +/[1] 2 3 rho iota 6 ; rho +/2 3 4 rho 1 ; rho +/[2] 2 3 4 rho 1 ; rho +/[1] 2 3 4 rho 1", "6 15|5 7 9|2 3|2 4|3 4");
        shows("-/[1] 3 2 rho 1 2 30 4 500 6 ; -/[2] 2 3 2 rho iota 12", "471 4|[2 2]3 4 9 10");
        // "Of one item that one"
        shows("+/, 5 ; +/, 'a' ; {1 % 0}/, 5 ; +/3 1 rho 5 6 7 ; floor/, 1 ; +/, enc 1 2", "5|a|5|5 6 7|1|(1 2)");
        fails("floor/5 6", SYNTAX);
    }

    /** "of none (a row of no places) by f": 0 of .. , 1 of .. , 2000000000 of min, -2000000000 of max. */
    private static void reduceNone() {
        for (String f : "+ - | or gcd < > /=".split(" ")) shows(f + "/'' ; " + f + "/2 0 rho 1 ; " + f + "/[1] 0 2 rho 1", "0|0 0|0 0");
        for (String f : "* % ^ ! and lcm <= >= =".split(" ")) shows(f + "/'' ; " + f + "/2 0 rho 1", "1|1 1");
        shows("min/'' ; max/'' ; min/2 0 rho 1 ; max/[1] 0 1 rho 1", "2000000000|_2000000000|2000000000 2000000000|_2000000000");
        // "a sign or WORD without AXIS, also by a NAME or ( )"
        shows("f := * ; f/'' ; (+)/'' ; ((min))/'' ; f := (max) ; f/'' ; g := f ; g/'' ; {left : 1} pow 0 +/''", "1|0|2000000000|_2000000000|_2000000000|0");
    }

    /** "of others DOMAIN". */
    private static void reduceNothing() {
        for (String f : ("floor ceil not ? rho , tally depth first enc mix split enl rev rot tr take drop rep expand uniq up down iota where "
            + "mem find pick match without union inter part penc enco deco fmt exe same").split(" ")) {
            fails(f + "/''", DOMAIN);
        }
        for (String f : new String[] {"{0}", "+/", "+\"", "+~", "+@", "+.+", "+ rank 0", "+ pow 1", "+ key", "(+/)", "({0})", ",[1]", "+\\"}) {
            fails(f + "/''", DOMAIN);
        }
        fails("f := {0} ; f/''", DOMAIN);
        fails("f := +~ ; f/2 0 rho 1", DOMAIN);
        fails("{self/''} 1", DOMAIN);
        // a { } whose place in the text is like a sign
        for (int n = 30; n < 70; n++) fails(many(";", n) + "{0}/''", DOMAIN);
    }

    /** Where there is no row, none is of none. FILL: W's. */
    private static void reduceNoneOfOthers() {
        empty("q := {0}/0 0 rho 'a'", "0", " ");
        empty("q := {0}/0 3 rho 'a'", "0", " ");
        empty("q := +/0 3 rho 'a'", "0", " ");
        empty("q := +/[1] 3 0 rho (1 2) 3", "0", "(0 0)");
        empty("q := +/[1] 3 0 rho 3 (1 2)", "0", "0");
        empty("q := +/[1] 0 0 rho 'a'", "0", " ");
        shows("+/3 0 rho 'a' ; +/[1] 0 3 rho 'a'", "0 0 0|0 0 0");
    }

    private static void reduceWrongly() {
        fails("+/[1] 5", INDEX);
        fails("+/[2] 5 6", INDEX);
        fails("+/['a'] 5 6", DOMAIN);
        fails("+/[1 1] 5 6", LENGTH);
        fails("+/1 'a'", DOMAIN);
        fails("+/1000 rho 2000000000", LIMIT);
        fails("+/1 (1 2) (1 2 3)", LENGTH);
        fails("+/ 1000 2 0 rho 1", LIMIT);
        fails("{0}/ 1000 2 0 rho 1", LIMIT);
        shows("rho +/ 500 2 0 rho 1", "500 2");
    }

    /** "A f/ W: .. extent + 1 - n (in size) places along the AXIS: f/ of so many items from there on". */
    private static void windows() {
        shows("1 +/1 2 3 ; 2 +/1 2 3 ; 3 +/1 2 3 ; _1 -/1 2 3 ; 2 -/1 5 2 ; _2 -/1 5 2 ; 3 -/1 5 2 ; _3 -/1 5 2", "1 2 3|3 5|6|1 2 3|_4 3|4 _3|_2|_2");
        shows("2 {left , right}/1 2 3 ; _3 {left , right}/1 2 3 4 ; 2 +/2 3 rho iota 6 ; 2 +/[1] 3 2 rho iota 6 ; _2 -/[1] 3 2 rho 1 2 10 20 100 200",
            "(1 2) (2 3)|(3 2 1) (4 3 2)|[2 2]3 5 9 11|[2 2]4 6 8 10|[2 2]9 18 90 180");
        shows("(, 2) +/1 2 3 ; (1 1 rho 2) +/1 2 3 ; 1 {1 % 0}/1 2 ; 1 +/, 5", "3 5|3 5|1 2|5");
        shows("x := 3 2 rho iota 6 ; y := 1 1 1 rho 1 ; z := 4 4 rho 1 ; 2 +/[1] x ; 2 +/x", "[2 2]4 6 8 10|[3 1]3 7 11");
        // n in size is extent + 1: no places
        empty("q := 4 +/'abc'", "0", " ");
        empty("q := _4 +/1 2 3", "0", "0");
        empty("q := 1 +/''", "0", " ");
        empty("q := _1 {0}/''", "0", " ");
        empty("q := 3 +/2 2 rho 'a'", "2 0", " ");
        empty("q := 3 +/[1] 2 2 rho (1 2) 3", "0 2", "(0 0)");
    }

    /** f/ of none. */
    private static void windowsOfNone() {
        shows("0 +/1 2 ; 0 */'' ; 0 min/, 5 ; 0 +/2 1 rho 1 ; 0 +/[1] 1 2 rho 1", "0 0 0|1|2000000000 2000000000|[2 2]0 0 0 0|[2 2]0 0 0 0");
        fails("0 ,/1 2", DOMAIN);
        fails("0 {0}/1 2", DOMAIN);
        fails("0 {0}/''", DOMAIN);
        fails("0 +/iota 1000", LIMIT);
        fails("0 {0}/iota 1000", LIMIT);
        fails("0 {0}/500 2 rho 1", LIMIT);
        shows("tally 0 +/iota 999 ; rho 0 +/500 1 rho 1 ; rho 0 +/[1] 499 2 rho 1", "1000|500 2|500 2");
        empty("q := 0 {0}/0 2 rho 'a'", "0 3", " ");
    }

    /** "A has COUNT 1 (LENGTH), a WHOLE n (DOMAIN); W of RANK 0: RANK; n in size at most extent + 1 (LENGTH, looked at last)". */
    private static void windowsWrongly() {
        fails("2 +/5", RANK);
        fails("'a' +/5", RANK);
        fails("1 2 +/5", RANK);
        fails("2 +/enc 1 2", RANK);
        fails("1 2 +/1 2", LENGTH);
        fails("'' +/1 2", LENGTH);
        fails("'ab' +/1 2", LENGTH);
        fails("1r2 +/1 2", DOMAIN);
        fails("'a' +/1 2", DOMAIN);
        fails("(enc 1 2) +/1 2", DOMAIN);
        for (String n : new String[] {"4", "_4", "2000000000", "_2000000000"}) {
            fails(n + " +/1 2", LENGTH);
            fails(n + " {1 % 0}/1 2", LENGTH);
        }
        fails("2 +/''", LENGTH);
        fails("2 +/[1] 5", INDEX);
        fails("1 2 +/[3] 1 2", INDEX);
        fails("3 +/[1] 1 2 rho 1", LENGTH);
    }

    /** "f\ W: along the AXIS (W of RANK 0: W): at place i f/ of the items up to there, each worked out anew." */
    private static void running() {
        shows("+\\5 ; +\\1 2 3 ; -\\1 2 3 ; ,\\1 2 3 ; +\\, 5 ; {1 % 0}\\, 5 ; +\\enc 1 2", "5|1 3 6|1 _1 2|1 (1 2) (1 2 3)|5|5|(1 2)");
        shows("+\\2 2 rho iota 4 ; +\\[1] 2 2 rho iota 4 ; -\\[2] 1 3 2 rho iota 6 ; +\\(1 2) (3 4)", "[2 2]1 3 3 7|[2 2]1 2 4 6|[1 3 2]1 2 _2 _2 3 4|(1 2) (4 6)");
        House x = new House();
        due("each anew", x.run("x := 0 ; {x + := 1 ; left + right}\\1 2 3 ; x"), 0);
        due("each anew", x.shown(), "1 3 6\n3\n");
        fails("+\\[1] 5", INDEX);
        shows("+\\3 1 rho 1 2 3 ; +\\[1] 1 3 rho 1 2 3 ; +\\[2] 2 1 2 rho iota 4 ; {1 % 0}\\3 1 rho 1 2 3", "[3 1]1 2 3|[1 3]1 2 3|[2 1 2]1 2 3 4|[3 1]1 2 3");
        fails("+\\[2] 5 6", INDEX);
        fails("+\\['a'] 5", DOMAIN);
        fails("+\\[1 1] 5", LENGTH);
        fails("+\\1 'a'", DOMAIN);
        empty("q := +\\''", "0", " ");
        empty("q := {0}\\0 3 rho 'a'", "0 3", " ");
        empty("q := {0}\\2 0 rho enc 1 2", "2 0", "(0 0)");
        shows("+\\[1] 0 3 rho 1 ; tally +\\30 rho 1", "[0 3]|30");
    }

    private static void each() {
        shows("-\" 5 ; -\" , 5 ; rho -\" 2 3 rho 1 ; {right right}\" 5 ; rho {right right}\" 5 ; -\" enc 1 2 ; rho -\" enc 1 2", "_5|_5|2 3|(5 5)||(_1 _2)|");
        shows("{right}\" 'ab' ; tally\" 'ab' 'c' ; {x := right ; x + 1}\" 1 2 ; f := {right + 1} ; f\" 1 2 ; f\"\" (1 2) 3", "ab|2 1|2 3|2 3|(2 3) 4");
        fails("%\" 1 0", DOMAIN);
        fails("min\" 1 2", SYNTAX);
        fails("{enc 999 rho right}\" 1 2", LIMIT);
    }

    /** "A f" W: the extents, and which items go together, as in 6 (RANK, LENGTH)." */
    private static void eachPair() {
        shows("1 2 ,\" 3 4 ; 1 ,\" 3 4 ; 1 2 ,\" 3 ; (, 1) ,\" 3 4 ; 1 2 ,\" 1 1 rho 3 ; (enc 1 2) ,\" 3 4 ; 3 4 ,\" enc 1 2", "(1 3) (2 4)|(1 3) (1 4)|(1 3) (2 3)|(1 3) (1 4)|(1 3) (2 3)|(1 2 3) (1 2 4)|(3 1 2) (4 1 2)");
        shows("rho 1 ,\" 2 ; rho (, 1) ,\" 1 1 rho 2 ; rho (1 1 rho 1) ,\" , 2 ; rho 1 ,\" , 2 ; rho (, 1) ,\" 2 ; rho (2 2 rho 1) ,\" 2 2 rho 1", "|1 1|1 1|1|1|2 2");
        fails("1 2 ,\" 1 2 3", LENGTH);
        fails("1 2 ,\" 1 2 rho 1", RANK);
        fails("1 2 {1 % 0}\" 1 2 3", LENGTH);
        fails("'' ,\" 1 2", LENGTH);
        fails("'' ,\" 0 2 rho 1", RANK);
        fails("1 2 floor\" 1 2", SYNTAX);
    }

    /** "EMPTY: FILL 0, f is not applied." */
    private static void eachNothing() {
        empty("q := {1 % 0}\" ''", "0", "0");
        empty("q := min\" 0 3 rho 'a'", "0 3", "0");
        empty("q := {1 % 0}\" 0 rho enc 1 2", "0", "0");
        empty("q := 1 floor\" ''", "0", "0");
        empty("q := '' {1 % 0}\" , 5", "0", "0");
        empty("q := (0 2 rho 1) {1 % 0}\" 0 2 rho 'a'", "0 2", "0");
    }

    /** "f~ W: W f W. A f~ W: W f A. (Values as they are.)" */
    private static void swap() {
        shows("-~ 5 ; 2 -~ 5 ; ,~ 1 2 ; (1 2) {left right}~ 3 ; {left right}~ 3 ; 2 -~~ 5 ; (enc 1 2) same~ 5", "0|3|1 2 1 2|3 (1 2)|3 3|_3|(1 2)");
        fails("floor~ 5", SYNTAX);
        fails("1 floor~ 5", SYNTAX);
        fails("1 2 +~ 1 2 3", LENGTH);
    }

    /** "A f@ W: the extents of A, then of W: each item of A, f, each of W (EMPTY: FILL 0)." */
    private static void outer() {
        shows("1 2 +@ 10 20 30 ; 1 +@ 2 ; rho 1 +@ 2 ; rho 1 2 +@ 3 ; rho 3 +@ 1 2 ; rho (2 3 rho 1) +@ 4 5 rho 1 ; 1 2 ,@ 3 4", "[2 3]11 21 31 12 22 32|3||2|2|2 3 4 5|[2 2](1 3) (1 4) (2 3) (2 4)");
        empty("q := '' {1 % 0}@ 1 2", "0 2", "0");
        shows("1 2 3 +@ 5 ; 1 2 3 +@ , 5 ; 5 +@ 1 2 3 ; (, 5) +@ 1 2 3 ; (2 1 rho 1 2) ,@ enc 3 4", "6 7 8|[3 1]6 7 8|6 7 8|[1 3]6 7 8|[2 1](1 3 4) (2 3 4)");
        empty("q := 'ab' {1 % 0}@ ''", "2 0", "0");
        empty("q := '' {1 % 0}@ 5", "0", "0");
        fails("(40 rho 1) +@ 26 rho 1", LIMIT);
        fails("(40 rho 1) {1 % 0}@ 26 rho 1", LIMIT);
        shows("rho (40 rho 1) +@ 25 rho 1", "40 25");
        fails("1 2 floor@ 1 2", SYNTAX);
        fails("1 2 +@ 1 'a'", DOMAIN);
    }

    /** "at each, for k from the first place to the last: item of A g item of W; of these as f/". */
    private static void inner() {
        shows("1 2 3 +.* 4 5 6 ; (2 2 rho iota 4) +.* 2 2 rho iota 4 ; (2 2 rho iota 4) +.* 5 6 ; 5 6 +.* 2 2 rho iota 4", "32|[2 2]7 10 15 22|17 39|23 34");
        shows("1 2 3 -.+ 10 20 30 ; 1 2 {left , right}.{left right} 3 4 ; rho (2 3 4 rho 1) +.* 4 5 6 rho 1 ; 1 2 and.= 1 2", "22|(1 3 2 4)|2 3 5 6|1");
        // "what g gave is what f gets; one of them BOXED"
        shows("(, 1) +., , 2 ; 1 2 ,., 3 4 ; 1 +.{left right} 2 ; 1 2 {left right}.{left right} 3 4", "(1 2)|(1 3 2 4)|(1 2)|((1 3) (2 4))");
        shows("1 +.* 2 ; rho 1 +.* 2 ; rho (, 1) +.* , 2 ; 2 {1 % 0}.+ 3 ; (enc 1 2) +.* 3 ; 3 +.* enc 1 2", "2|||5|(3 6)|(3 6)");
        shows("x := 2 3 rho iota 6 ; w := 3 2 rho iota 6 ; z := 7 7 rho 1 ; x +.* w", "[2 2]22 28 49 64");
    }

    /** "the same, or one of these is 1, or one of A, W has RANK 0: then it is as often there as the other has .., else LENGTH". */
    private static void innerExtents() {
        shows("2 +.* 1 2 3 ; 1 2 3 +.* 2 ; (, 2) +.* 1 2 3 ; 1 2 3 +.* , 2 ; (2 1 rho 5 6) +.* 1 2 3 ; 1 2 3 +.* 1 2 rho 5 6", "12|12|12|12|30 36|30 36");
        shows("(2 3 rho iota 6) +.* 2 ; 2 +.* 2 3 rho iota 6 ; (2 1 rho 5 6) +.* 1 2 rho 7 8", "12 30|10 14 18|[2 2]35 40 42 48");
        fails("1 2 +.* 1 2 3", LENGTH);
        fails("(2 3 rho 1) +.* 2 3 rho 1", LENGTH);
        fails("'' +.* 1 2", LENGTH);
        fails("1 2 +.* ''", LENGTH);
        fails("1 2 {1 % 0}.{1 % 0} 1 2 3", LENGTH);
        fails("(1 1 1 1 2 rho 1) +.* 2 1 1 1 rho 1", LIMIT);
        fails("(40 2 rho 1) +.* 2 26 rho 1", LIMIT);
        fails("(40 2 rho 1) {1 % 0}.{1 % 0} 2 26 rho 1", LIMIT);
        shows("rho (1 1 1 1 2 rho 1) +.* 2 1 1 rho 1 ; rho (40 2 rho 1) +.* 2 20 rho 1", "1 1 1 1 1 1|40 20");
    }

    /** Rows of none, as f/; "EMPTY results: FILL 0". */
    private static void innerNone() {
        shows("'' +.* '' ; '' *.+ '' ; 5 +.* '' ; '' min.* 5 ; (, 5) +.* '' ; '' +.* , 5 ; (2 0 rho 1) +.* 0 3 rho 1 ; (2 0 rho 1) *.{1 % 0} 5", "0|1|0|2000000000|0|0|[2 3]0 0 0 0 0 0|1 1");
        fails("'' ,.+ ''", DOMAIN);
        fails("'' {0}.+ ''", DOMAIN);
        fails("5 {0}.+ ''", DOMAIN);
        fails("(1000 0 rho 1) {0}.+ 0 2 rho 1", LIMIT);
        empty("q := (0 2 rho 'a') +.* 1 2", "0", "0");
        empty("q := (0 0 rho 'a') {0}.{0} 0 2 rho 1", "0 2", "0");
        empty("q := 1 2 {0}.{0} 2 0 rho 'a'", "0", "0");
        empty("q := (0 2 rho 'a') {0}.{0} 3", "0", "0");
    }

    /** "RANKS taken: k, but at most RANK; k below 0: RANK and k, but at least 0." */
    private static void rank() {
        String x = "x := 2 3 4 rho iota 24 ; ";
        String[][] rows = {{"0", "2 3 4", ""}, {"1", "2 3", "4"}, {"2", "2", "3 4"}, {"3", "", "2 3 4"}, {"4", "", "2 3 4"},
            {"2000000000", "", "2 3 4"}, {"_1", "2", "3 4"}, {"_2", "2 3", "4"}, {"_3", "2 3 4", ""}, {"_4", "2 3 4", ""}, {"_2000000000", "2 3 4", ""}};
        for (String[] row : rows) {
            shows(x + "rho {1} rank " + row[0] + " x", row[1]);
            shows(x + "first , {enc rho right} rank " + row[0] + " x", row[2]);
        }
        shows("+/ rank 1 (2 3 rho iota 6) ; rev rank 1 (2 2 rho iota 4) ; tally rank _1 (2 3 rho 1) ; tally rank 5 (1 2)", "6 15|[2 2]2 1 4 3|3 3|2");
        shows("tally rank (, 1) 2 3 rho 1 ; tally rank (1 1 rho 1) 2 3 rho 1 ; k := 1 1 rho 1 ; tally rank k[1;1] 2 3 rho 1", "3 3|3 3|3 3");
        shows("{5} rank 0 7 ; rho {5} rank 0 , 7 ; {right} rank 0 (enc 1 2) ; depth rank 0 (1 (2 3))", "5|1|(1 2)|0 2");
    }

    /** "With A: that of A at the same place; the FRAMES have the same extents (RANK, LENGTH), or one of RANK 0 stands beside each." */
    private static void rankOfTwo() {
        shows("1 2 + rank 0 3 4 ; 1 + rank 0 3 4 ; 1 2 + rank 0 3 ; 1 2 , rank 0 3 4 ; 1 2 , rank 1 3 4", "4 6|4 5|4 5|[2 2]1 3 2 4|1 2 3 4");
        shows("1 2 , rank (0 1) 2 2 rho 5 6 7 8 ; (2 2 rho 5 6 7 8) , rank (1 0) 1 2 ; 1 2 , rank (1 0) 3 4 ; 1 2 , rank (, 1) 2 1 rho 3 4", "[2 3]1 5 6 2 7 8|[2 3]5 6 1 7 8 2|[2 3]1 2 3 1 2 4|[2 3]1 2 3 1 2 4");
        shows("(2 2 rho iota 4) , rank 1 (2 2 rho 5 6 7 8) ; (2 2 rho iota 4) , rank 1 (9 8) ; 9 8 , rank 1 (2 2 rho iota 4) ; 1 2 , rank (2 1 rho 0 1) (2 1 rho 3 4)",
            "[2 4]1 2 5 6 3 4 7 8|[2 4]1 2 9 8 3 4 9 8|[2 4]9 8 1 2 9 8 3 4|[2 2]1 3 2 4");
        shows("(2 3 rho 0) {left , right} rank (_1 _1) (2 2 rho 5) ; 1 2 {left right} rank (_9 9) 3 4", "[2 5]0 0 0 5 5 0 0 0 5 5|[2 2]1 (3 4) 2 (3 4)");
        fails("1 2 + rank 0 2 2 rho 1", RANK);
        fails("(2 2 rho 1) + rank 0 (1 2)", RANK);
        fails("1 2 + rank 0 1 2 3", LENGTH);
        fails("(2 3 rho 1) + rank 0 (3 2 rho 1)", LENGTH);
        fails("(2 2 rho 1) , rank 1 (3 2 rho 1)", LENGTH);
        fails("(2 3 rho 1) {0} rank 0 (2 4 rho 1)", LENGTH);
        fails("1 2 {1 % 0} rank 0 (1 2 3)", LENGTH);
    }

    /** "k (of any RANK) has COUNT 1 (A f rank k W: or 2, for A, then W) (LENGTH), WHOLES (DOMAIN); these are looked at first". */
    private static void rankWrongly() {
        for (String k : new String[] {"(1 2)", "''", "(1 2 3)", "'ab'", "(0 0 rho 1)", "(2 1 rho 1)"}) fails("+ rank " + k + " 5", LENGTH);
        for (String k : new String[] {"''", "(1 2 3)", "'abc'", "(3 1 rho 1)"}) fails("1 + rank " + k + " 5", LENGTH);
        for (String k : new String[] {"1r2", "'a'", "(enc 1 2)"}) {
            fails("+ rank " + k + " 5", DOMAIN);
            fails("1 + rank " + k + " 5", DOMAIN);
        }
        fails("1 + rank (1 'a') 5", DOMAIN);
        fails("1 + rank ('a' 1) 5", DOMAIN);
        fails("1 2 + rank ('a' 0) (2 2 rho 1)", DOMAIN);
        fails("1 2 + rank (0 0 0) (2 2 rho 1)", LENGTH);
        fails("1 2 3 + rank 1r2 (2 2 rho 1)", DOMAIN);
    }

    /** "A FRAME with COUNT 0: that FRAME, FILL 0, f is not applied." "(with W's FILL if EMPTY)". */
    private static void rankOfNothing() {
        empty("q := {1 % 0} rank 0 ''", "0", "0");
        empty("q := {1 % 0} rank 1 (0 3 rho 'a')", "0", "0");
        empty("q := {1 % 0} rank 1 (2 0 3 rho 'a')", "2 0", "0");
        empty("q := '' {1 % 0} rank 0 5", "0", "0");
        empty("q := '' {1 % 0} rank 0 ''", "0", "0");
        empty("q := min rank 0 ''", "0", "0");
        empty("q := {right} rank 1 (2 0 rho 'a')", "2 0", " ");
        empty("q := {right} rank 1 (2 0 rho enc 1 2)", "2 0", "(0 0)");
        empty("q := {first enc right} rank 2 (0 3 rho 'a')", "0 3", " ");
        shows("{first right} rank 1 (2 0 rho 'a') ; {tally right} rank 1 (3 0 rho 1) ; rho {right} rank 2 (2 3 0 rho 1)", "  |0 0 0|2 3 0");
        fails("'' {0} rank 0 (1 2)", LENGTH);
        fails("'' {0} rank 0 (0 2 rho 1)", RANK);
    }

    /** "What f gives, BOXED at each place of the FRAME, MIXED as mix does." */
    private static void rankMixes() {
        shows("iota rank 0 (1 2 3) ; {right rho 'a'} rank 0 (1 2) ; {1 = right : 'ab' ; 5} rank 0 (1 2) ; {enc right} rank 1 (2 2 rho iota 4)", "[3 3]1 0 0 1 2 0 1 2 3|[2 2]a aa|[2 2]a b 5 0|(1 2) (3 4)");
        shows("rho {right right rho 1} rank 0 (1 2 3) ; {''} rank 0 (1 2) ; rho {''} rank 0 (1 2) ; {'ab'} rank 0 5 ; rho {2 2 rho 1} rank 0 (3 rho 1)", "3 3 3|[2 0]|2 0|ab|3 2 2");
        fails("{1000 rho right} rank 0 (1 2)", LIMIT);
        fails("{1 1 1 1 1 1 rho right} rank 0 (1 2)", LIMIT);
        shows("rho {500 rho right} rank 0 (1 2) ; rho rev rank 1 (10 100 rho 1) ; tally {right} rank 1 (1000 rho 1) ; tally {right} rank 0 (1000 rho 1)", "2 500|10 100|1000|1000");
        fails("{1 = right : 600 rho 1 ; 5} rank 0 (1 2)", LIMIT);
        shows("rho {1 = right : 500 rho 1 ; 5} rank 0 (1 2) ; depth {enc pow 6 , right} rank 0 5", "2 500|7");
    }

    /** "f pow k: k has COUNT 1 (LENGTH), a WHOLE 0 .. (DOMAIN): W, then so many times f of it, or A f it (values as they are)." */
    private static void pow() {
        shows("- pow 0 5 ; - pow 1 5 ; - pow 2 5 ; 3 + pow 4 1 ; {right , 1} pow (, 2) 5 ; {right , 1} pow (1 1 rho 2) 5 ; enc pow 2 (1 2)", "5|_5|5|13|5 1 1|5 1 1|((1 2))");
        shows("{1 % 0} pow 0 5 ; min pow 0 5 ; 1 floor pow 0 5 ; 1 2 , pow 2 3", "5|5|5|1 2 1 2 3");
        for (String k : new String[] {"''", "(1 2)", "'ab'", "(0 0 rho 1)"}) fails("+ pow " + k + " 5", LENGTH);
        for (String k : new String[] {"_1", "1r2", "'a'", "(enc 1 2)", "_2000000000"}) fails("+ pow " + k + " 5", DOMAIN);
        fails("min pow 1 5", SYNTAX);
        fails("+ pow 2000000000 5", STEPS);
        ends("+ pow 13330 1", 0, 39998);
        ends("+ pow 13331 1", STEPS, 40000);
    }

    /** "f key W: a vector: for each item u of uniq W: u OPENED f the VECTOR of the places (from ORIGIN on) of the items ALIKE to it." */
    private static void keyAlone() {
        shows("{enc right} key 'hello' ; {left} key 'hello' ; {tally right} key 3 1 3 3 ; {enc left right} key 5 ; , key 'aba' ; {rho left} key (1 2) (1 2)",
            "(1) (2) (3 4) (5)|helo|3 1|(5 (1))|[2 3]a 1 3 b 2  |[1 1]2");
        shows("{enc right} key (1 2) 3 (1 2) ; {left} key (1 2) 3 (1 2) ; {+/right} key 1 '1' 1", "(1 3) (2)|[2 2]1 2 3 0|4 2");
        fails("{0} key 1 1 rho 5", RANK);
        fails("{0} key 0 2 rho 5", RANK);
        empty("q := {1 % 0} key ''", "0", "0");
        empty("q := min key 0 rho enc 1 2", "0", "0");
        shows("tally {1} key iota 300", "300");
    }

    /** "A f key W: vectors of the same COUNT (LENGTH): .. the VECTOR of the items of W at these places." */
    private static void keyOfTwo() {
        shows("'aba' {enc right} key 1 2 3 ; 'aba' {+/right} key 1 2 3 ; 1 {left , right} key 2 ; (1 2) 5 (1 2) {enc right} key 'xyz' ; 'ab' {enc right} key (1 2) 3",
            "(1 3) (2)|4 2|[1 2]1 2|(xz) (y)|((1 2)) (3)");
        shows("(, 1) {right} key 2 ; 1 {right} key , 2 ; 'ab' {right} key 5 6 ; 'aa' {right} key 5 6", "[1 1]2|[1 1]2|[2 1]5 6|[1 2]5 6");
        empty("q := '' {1 % 0} key ''", "0", "0");
    }

    private static void keyWrongly() {
        fails("1 2 {0} key 1 2 3", LENGTH);
        fails("1 2 {0} key 1", LENGTH);
        fails("'' {0} key 1", LENGTH);
        fails("1 {0} key ''", LENGTH);
        fails("(1 2 rho 1) {0} key 1 2", RANK);
        fails("1 2 {0} key 1 2 rho 1", RANK);
        fails("1 {0} key 2 2 rho 1", RANK);
        fails("{1 % 0} key 1 1 rho 5", RANK);
        fails("{1000 rho 1} key 1 2", LIMIT);
        fails("{1 1 1 1 1 1 rho 1} key 1 2", LIMIT);
    }

    /** "all events but those of f and g, and LIMIT for RANK, extents and COUNT, come ahead of the first application of these". */
    private static void ahead() {
        String[] texts = {"(40 rho 1) %@ 26 rho 1", "(1 1 1 1 rho 1) %@ 1 1 1 rho 1", "%/ 1000 2 0 rho 1", "0 %/ 1000 rho 1",
            "(1000 0 rho 1) %.% 0 2 rho 1", "(1 1 1 1 2 rho 1) %.% 2 1 1 1 rho 1", "4 %/ 1 2", "1 2 %\" 1 2 3", "1 2 %.% 1 2 3",
            "1 2 % key 1", "%/ ''", "0 %/ 1 2", "'' %.% ''", "% rank 'a' 5", "% rank (1 2) 5", "1 2 % rank 0 (1 2 3)", "% key 1 1 rho 1"};
        int[] events = {LIMIT, LIMIT, LIMIT, LIMIT, LIMIT, LIMIT, LENGTH, LENGTH, LENGTH, LENGTH, DOMAIN, DOMAIN, DOMAIN, DOMAIN,
            LENGTH, LENGTH, RANK};
        for (int i = 0; i < texts.length; i++) {
            House x = new House();
            due(texts[i], x.run("n := 0 ; " + texts[i].replace("%", "{n + := 1 ; 0}")), events[i]);
            x.run("n");
            due(texts[i] + ": nothing was applied", x.shown(), "0\n");
        }
    }

    /** "LIMIT for SIZE and DEPTH behind the last one". */
    private static void behind() {
        for (String text : new String[] {"{x + := 1 ; 400 rho 1}\" 1 2 3", "1 2 3 {x + := 1 ; 400 rho 1}\" 1 2 3", "1 {x + := 1 ; 400 rho 1}@ 1 2 3",
            "{x + := 1 ; enc pow 7 , 1}\" 1 2 3", "{x + := 1 ; 400 rho 1} rank 0 1 2 3", "{x + := 1 ; 400 rho 1} key 1 2 3",
            "2 {x + := 1 ; 400 rho 1}/ 1 2 3 4", "{x + := 1 ; 400 rho 1}/ 3 2 rho 1"}) {
            House x = new House();
            due(text, x.run("x := 0 ; " + text), LIMIT);
            x.run("x");
            due(text + ": all were applied", x.shown(), "3\n");
        }
        fails("{1 = right : enc 999 rho 1 ; 1 % 0}\" 1 2", DOMAIN);
    }

    /** "Rows, places, items go in order of the result." */
    private static void inOrder() {
        String f = "x := '' ; f := {x , := right ; right} ; g := {x , := enc left right ; left} ; ";
        shows(f + "y := f\" 'abcd' ; x ; y := f rank 0 (2 2 rho 'efgh') ; x ; y := f key 'xyx' ; x", "abcd|abcdefgh|a b c d e f g h 1 3 2");
        shows(f + "y := 'ab' g@ 'cd' ; x ; x := '' ; y := 'ab' g\" 'cd' ; x ; x := '' ; y := g/ 2 3 rho 'abcdef' ; x", "(ac) (ad) (bc) (bd)|(ac) (bd)|(bc) (ab) (ef) (de)");
        shows(f + "y := g/[1] 2 2 rho 'abcd' ; x ; x := '' ; y := 2 g/ 'abc' ; x ; x := '' ; y := g\\ 'abc' ; x",
            "(ac) (bd)|(ab) (bc)|(ab) (bc) (ab)");
        shows(f + "y := 'ab' {left}.g 'cd' ; x ; x := '' ; y := 'ab' g.{left , right} 'cd' ; x", "(ac) (bd)|((ac) (bd))");
    }
}
