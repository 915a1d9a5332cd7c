/** Head 4 of the document's Terms, sentence by sentence: NAMES, the PLACES where they are, and := . */
public final class NameEdgesTest extends House {
    public static void main(String[] args) {
        sixtyNames();
        twentyNames();
        places();
        placesOfFunctions();
        placesOfExecuted();
        leftRightSelf();
        gone();
        givingOne();
        givingMany();
        givingManyWrongly();
        combining();
        changing();
        changingWrongly();
        changingOrderOfEvents();
        changingTheFill();
        chosen();
        chosenWrongly();
        chosenNames();
        foundWhere();
        noneOfTheFive();
        atOnce();
        valueBehind();
        functions();
        bytesOfFunctions();
        boundsOfBytes();
        endsBy();
        end();
    }

    private static String names(int from, int to, String what) {
        StringBuilder s = new StringBuilder();
        for (int i = from; i < to; i++) s.append("n").append(i).append(" := ").append(what).append(" ; ");
        return s.toString();
    }

    private static House full() {
        House x = new House();
        due("60 NAMES", x.run(names(0, 60, "1")), 0);
        return x;
    }

    /** "The HOUSE has NAMES, 60 at most (LIMIT for one more)". */
    private static void sixtyNames() {
        House x = full();
        due("told", x.h.told(0), 60);
        due("one more value", x.run("m := 1"), LIMIT);
        due("one more function", x.run("m := +"), LIMIT);
        due("one more of some", x.run("(n0 m) := 5 6"), LIMIT);
        due("the others have got theirs", x.run("(m n1) := 7 8"), LIMIT);
        due("the others", x.run("n1 n0"), 0);
        due("the others", x.shown(), "8 1\n");
        due("one that is there", x.run("n59 := 2 ; n58 := + ; n58 := 3 ; n0 + := 1 ; n59"), 0);
        due("by exe", x.run("exe 'm := 1'"), LIMIT);
        due("the same number", x.h.told(0), 60);
        due("a CALL has its own", x.run("{m := 5 ; m} 0"), 0);
        due("shown", x.shown(), "5\n");
        due("taken by a GUARD", x.run("{7 :: 3 ; exe 'm := 1 ; n0 := 9' ; 4} 0"), 0);
        due("a function is one of 60", x.run("n3 := +"), 0);
        due("one more", x.run("m := 1"), LIMIT);
        due("forget a function", x.forget("n3"), 2);
        due("room for one", x.run("m := - ; 1 m 2"), 0);
        due("one more", x.run("n3 := 1"), LIMIT);
        due("forget a value", x.forget("n7"), 1);
        due("room for one", x.run("n3 := 1 ; n3"), 0);
        due("told", x.h.told(0), 60);
    }

    /** "each CALL of a { } has its own, 20 at most (LIMIT for one more)". */
    private static void twentyNames() {
        shows("{" + names(0, 20, "1") + "n0 := 2 ; n19 := 3 ; n0 n19} 0", "2 3");
        fails("{" + names(0, 21, "1") + "5} 0", LIMIT);
        fails("{" + names(0, 20, "1") + "f := + ; 5} 0", LIMIT);
        fails("{" + names(0, 20, "+") + "f := 1 ; 5} 0", LIMIT);
        shows("{" + names(0, 20, "+") + "1 n19 2} 0", "3");
        shows("{" + names(0, 20, "1") + "{" + names(0, 20, "2") + "n0} 0} 0", "2");
        shows("{" + names(0, 19, "1") + "7 :: 9 ; (a b) := 1 2 ; 5} 0", "9");
        shows("{" + names(0, 19, "1") + "7 :: b ; (a b) := 1 2 ; 5} 0", "2");
        shows("{7 :: 9 ; exe '" + names(0, 21, "1") + "5'} 0", "9");
        shows("({" + names(0, 20, "1") + "right + 1} pow 9) 0", "9");
        shows("{0 = right : 0 ; " + names(0, 20, "right") + "n19 + self right - 1} 38", "741");
    }

    /** "A NAME is looked for in the PLACE at hand; if that is a CALL, then in the PLACE in which its { } was met". */
    private static void places() {
        shows("n := 1 ; {n} 0 ; {n := 2 ; n} 0 ; n", "1|2|1");
        shows("n := 1 ; {{n} 0} 0 ; {n := 2 ; {n} 0} 0 ; {n := 2 ; ({n := 3 ; n} 0) , n} 0", "1|2|3 2");
        shows("n := 1 ; f := {n} ; {n := 2 ; f 0} 0", "1");
        shows("{n := 2 ; f := {n} ; {n := 3 ; f 0} 0} 0", "2");
        fails("{n := 2 ; 1} 0 ; n", VALUE);
        fails("{y := {n := 2 ; 1} 0 ; n} 0", VALUE);
        shows("n := 5 ; {f := {n} ; n := 6 ; f 0} 0", "6");
        shows("n := 7 ; " + many("{", 39) + "n + right" + many("} 1", 39), "8");
        shows("n := 7 ; " + many("{", 40) + "n" + many("} 1", 40), "7");
        shows("n := 7 ; " + many("{", 40) + "n := 8 ; m := 2 ; n + m" + many("} 1", 40) + " ; n", "10|7");
        shows("{n := 7 ; " + many("{", 39) + "n" + many("} 1", 40), "7");
        fails("n := 7 ; " + many("{", 41) + "n" + many("} 1", 41), LIMIT);
    }

    /** "the text of a function that a NAME means in the PLACE where it was assigned". */
    private static void placesOfFunctions() {
        shows("k := 1 ; f := {right , 9} pow k ; {k := 3 ; f right} 5", "5 9");
        shows("{k := 1 ; f := {right , 9} pow k ; {k := 3 ; f right} right} 5", "5 9");
        shows("{k := 1 ; f := {right , 9} pow k ; k := 2 ; {k := 3 ; f right} right} 5", "5 9 9");
        fails("f := + rank right ; {f right} 1", VALUE);
        shows("2 {f := {right , 8} pow left ; 1 {f 5} 0} 0", "5 8 8");
        shows("g := + ; f := g ; {g := - ; 1 f 2} 0", "3");
        shows("g := + ; {f := g ; {g := - ; 1 f 2} 0} 0", "3");
        shows("g := + ; {f := g ; g := - ; 1 f 2} 0", "_1");
    }

    /** "those of exe's text in the PLACE of the PHRASE in which exe is applied". */
    private static void placesOfExecuted() {
        shows("exe 'x := 5' ; x", "5|5");
        shows("x := 1 ; {y := exe 'x := 5' ; x} 0 ; x", "5|1");
        shows("{exe 'right , left'}~ 3", "3 3");
        shows("f := exe ; x := 1 ; {x := 2 ; f 'x'} 0", "2");
        shows("x := 1 ; {x := 2 ; exe\" 'xx'} 0", "2 2");
        shows("x := 1 ; 'x' {x := 2 ; exe left} 0", "2");
        shows("x := 1 ; {x := 2 ; ({exe 'x := 3 ; x'} 0) , x} 0", "3 2");
        fails("exe 'right'", VALUE);
    }

    /** "left, right and self are those of the CALL at hand alone (none in the HOUSE; no left without a left argument)". */
    private static void leftRightSelf() {
        shows("1 {left , {right} 3} 2 ; 1 {{right , 7} left} 2", "1 3|1 7");
        fails("1 {{left} right} 2", VALUE);
        fails("{left} 2", VALUE);
        fails("left", VALUE);
        fails("right", VALUE);
        fails("self 1", VALUE);
        fails("f := {right} ; right", VALUE);
        shows("{1 = right : 5 ; {1 = right : 6 ; self 1} right - 1} 2", "6");
        shows("{0 = right : 8 ; self 0} 1 ; {0 = tally right : 'e' ; self ''}\" 5 (6 7)", "8|ee");
        shows("4 {0 = right : left ; left self right - 1} 3 ; 4 {0 = right : left ; 6 self right - 1} 3", "4|6");
        fails("4 {0 = right : left ; self right - 1} 3", VALUE);
    }

    /** "What a CALL has is gone when it is over." */
    private static void gone() {
        shows("f := {0 = right : 3 ; n := 1 ; 4} ; f 1 ; f 0", "4|3");
        fails("f := {0 = right : n ; n := 1 ; 4} ; f 1 ; f 0", VALUE);
        fails("{f := {n} ; y := {n := 1 ; 2} 0 ; f 0} 0", VALUE);
        fails("f := {0 = right : n ; n := 5 ; self right - 1} ; f 1", VALUE);
        fails("{g := + ; 1} 0 ; 1 g 2", VALUE);
        fails("y := {a := 1 ; b := 2 ; c := 3 ; 4} 0 ; {z := 5 ; b} 0", VALUE);
        fails("y := {a := 1 ; b := 2 ; c := 3 ; 4} 0 ; {z := 5 ; c} 0", VALUE);
        fails("y := {a := 1 ; b := + ; c := - ; 4} 0 ; {y := 5 ; z := 6 ; 1 c 2} 0", VALUE);
        shows("g := - ; {g := + ; 1} 0 ; 1 g 2", "1|_1");
    }

    /** "NAME := : it means the VALUE from now on, in the PLACE at hand alone (what it meant there is gone)." */
    private static void givingOne() {
        shows("x := 5 ; x ; x := 'ab' ; x ; f := + ; f := 6 ; f ; x := - ; 1 x 2", "5|ab|6|_1");
        shows("x := y := z := 3 ; x y z ; x := 4 ; x y z", "3 3 3|4 3 3");
        shows("x := 1 ; x := x , x ; x := x x ; x", "(1 1) (1 1)");
        shows("x := '' ; rho x", "0");
        fails("x := 1 ; x[1] := 2", RANK);
    }

    /** "( NAMES ) := , one or more, whatever they mean: the VALUE is a VECTOR of as many items .. or has COUNT 1". */
    private static void givingMany() {
        shows("(a) := 5 ; a ; (a) := , 5 ; rho a ; (a) := enc 5 6 ; a ; (a) := , enc 5 6 ; a", "5||5 6|5 6");
        shows("(a b) := 5 6 ; a ; b ; (a b) := (1 2) 'x' ; a ; b", "5|6|1 2|x");
        shows("(a b c) := 7 ; a b c ; (a b) := enc 1 2 ; a ; b ; (a b) := 1 1 1 rho 4 ; a b", "7 7 7|1 2|1 2|4 4");
        shows("(a b c) := 'xyz' ; c , b , a", "zyx");
        shows("f := + ; x := 1 ; (f x new) := 1 2 3 ; f x new", "1 2 3");
        // "from the last NAME to the first"
        shows("(a a) := 1 2 ; a ; (a a b a) := 1 2 3 4 ; a b", "1|1 3");
        shows("(a) := (5 6)[1] ; a", "5");
    }

    private static void givingManyWrongly() {
        fails("(a b) := 1 2 3", LENGTH);
        fails("(a b c) := 1 2", LENGTH);
        fails("(a) := 1 2", LENGTH);
        fails("(a b) := ''", LENGTH);
        fails("(a) := ''", LENGTH);
        fails("(a b) := 1 2 rho 1", RANK);
        fails("(a b c) := 2 2 rho 1", RANK);
        fails("(a b c) := 0 3 rho 1", RANK);
        fails("() := 1", SYNTAX);
        ends("(a b) := 1 2", 0, 1 + 2 + 2 + 1 + 2);
        ends("(a b) := 1 2 3", LENGTH, 1 + 3 + 3 + 1);
        shows("{4 :: a ; a := 9 ; (a b) := 1 2 3} 0", "9");
    }

    /** "NAME, a function's sign or WORD without AXIS, := : what that function gives of its value (left) and the VALUE." */
    private static void combining() {
        shows("x := 7 ; x - := 2 ; x ; x , := 1 2 ; x ; x rho := 9 8 7 ; rho x ; x same := 4 ; x", "5|5 1 2|5 1 2|4");
        shows("x := 2 ; x take := 7 8 9 ; x ; x = := 7 0 ; x", "7 8|1 0");
        fails("x + := 2", VALUE);
        fails("x := + ; x + := 2", VALUE);
        fails("x := 1 ; x floor := 2", SYNTAX);
        fails("x floor := 2", VALUE);
        fails("x := 1 2 ; x + := 1 2 3", LENGTH);
        fails("x := 1 ; x % := 0", DOMAIN);
        fails("x := 1 ; f := + ; x f := 2", SYNTAX);
        fails("x := 1 ; x +/ := 2", SYNTAX);
        fails("x := 1 ; x ,[1] := 2", SYNTAX);
        fails("x := 1 ; x (+) := 2", SYNTAX);
        fails("x := 1 ; x {left} := 2", SYNTAX);
        shows("x := 5 ; {5 :: x ; x + := 'a'} 0", "5");
        ends("x := 1 2 ; x + := 3", 0, 8 + 3 + 4 + 2 + 2);
        ends("x := 1 ; x floor := 2", SYNTAX, 4 + 3);
    }

    /** "NAME [ INDICES ] := : .. the items of its value at those places become the VALUE's". */
    private static void changing() {
        shows("x := 4 5 6 ; x[2] := 9 ; x ; x[1 3] := 7 8 ; x ; x[] := 0 ; x ; x[] := 1 2 3 ; x", "4 9 6|7 9 8|0 0 0|1 2 3");
        shows("x := 2 2 rho 1 ; x[1;] := 5 6 ; x ; x[;1] := 'ab' ; x ; x[;] := 2 2 rho 9 ; x", "[2 2]5 6 1 1|[2 2]a 6 b 1|[2 2]9 9 9 9");
        shows("x := 4 5 6 ; x[2] := enc 1 2 ; x", "4 (1 2) 6");
        shows("x := 4 5 6 ; x[2] := , 9 ; x ; x[1 2] := 1 1 1 rho 7 ; x", "4 9 6|7 7 6");
        shows("x := 4 5 6 ; x[2 2 rho 1 2 3 1] := 2 2 rho 7 8 9 10 ; x", "10 8 9");
        // "places that are there twice get the later one, by the order of the result's items"
        shows("x := 4 5 6 ; x[2 2] := 8 9 ; x ; x[1 2 1] := 1 2 3 ; x", "4 9 6|3 2 6");
        shows("x := 2 2 rho 0 ; x[1 1;1 2] := 2 2 rho 1 2 3 4 ; x", "[2 2]3 4 0 0");
        // no places
        shows("x := 4 5 6 ; x[''] := 9 ; x[0 rho 1] := '' ; x", "4 5 6");
        shows("x := 4 5 6 ; x[x[1] - 3] := x[2] ; x ; x[y := 2] := y := 7 ; x y", "5 5 6|(5 7 6) 2");
        ends("x := 1 2 ; x[1] := 3", 0, 8 + 1 + 1 + 1 + 1 + 2);
    }

    private static void changingWrongly() {
        fails("x[1] := 2", VALUE);
        fails("x := + ; x[1] := 2", VALUE);
        fails("x[1 % 0] := 2", DOMAIN);
        fails("x := 5 ; x[1] := 2", RANK);
        fails("x := 5 ; x[] := 2", RANK);
        fails("x := 1 2 ; x[1;1] := 3", RANK);
        fails("x := 2 2 rho 1 ; x[] := 3", RANK);
        fails("x := 1 2 ; x['a'] := 3", DOMAIN);
        fails("x := 1 2 ; x[3] := 3", INDEX);
        fails("x := 1 2 ; x[1 2] := 1 2 rho 3", RANK);
        fails("x := 1 2 ; x[1 2] := 1 2 3", LENGTH);
        fails("x := 1 2 ; x[1 2] := ''", LENGTH);
        fails("x := 1 2 ; x[1] := 3 4", RANK);
        fails("x := 1 2 ; x[''] := 3 4", LENGTH);
        fails("x := 2 2 rho 1 ; x[1;] := 2 1 rho 5", RANK);
        fails("x := 2 2 rho 1 ; x[;] := 1 4 rho 5", LENGTH);
        fails("x := 999 rho 1 ; x[1] := enc 1 2", LIMIT);
        shows("x := 1 2 ; x[1] := enc pow 7 , 1 ; depth x", "8");
        shows("x := 998 rho 1 ; x[1] := enc 1 2 ; tally x", "998");
    }

    /** "looked at behind RANK, DOMAIN, INDEX and, by RANK, extents and COUNT, LIMIT, as x [ INDICES ] has them". */
    private static void changingOrderOfEvents() {
        fails("x := 1 2 ; x[1;1] := 'ab' 3 4", RANK);
        fails("x := 1 2 ; x['a'] := 1 2 rho 3", DOMAIN);
        fails("x := 1 2 ; x[3] := 1 2 rho 3", INDEX);
        fails("x := 1 2 ; x[3] := 3 4 5", INDEX);
        fails("i := 40 rho 1 ; x := 1 1 rho 1 ; x[i;i] := 5 6", LIMIT);
        fails("i := 40 rho 1 ; x := 1 1 rho 1 ; x[i;i] := 5", LIMIT);
        fails("i := 1 1 1 1 rho 1 ; x := 1 1 rho 1 ; x[i;i] := 5", LIMIT);
        fails("i := 1 1 rho 1 ; x := 1 1 rho 1 ; x[i;i] := 5 6", RANK);
    }

    /** "its FILL is that of its first item, or of the value before". */
    private static void changingTheFill() {
        shows("x := 4 5 ; x[1] := 'a' ; 3 take x ; x[1] := enc 1 2 ; 3 take x", "a 5  |(1 2) 5 (0 0)");
        shows("x := 4 5 ; x[2] := 'a' ; 3 take x", "4 a 0");
        empty("q := 'ab'[''] ; q[''] := 5", "0", " ");
        empty("q := 0 rho enc 1 2 ; q[''] := 'a'", "0", "(0 0)");
        empty("q := 0 2 rho 'a' ; q[;1] := 5", "0 2", " ");
    }

    /** "( PHRASE ) := , not of NAMES alone, its last token being a NAME". */
    private static void chosen() {
        shows("x := 4 5 6 ; (2 take x) := 8 9 ; x ; (rev x) := 1 2 3 ; x ; (, x) := 0 ; x", "8 9 6|3 2 1|0 0 0");
        shows("x := 2 3 rho 0 ; (1 take x) := 5 ; x", "[2 3]5 5 5 0 0 0");
        shows("x := 2 3 rho 0 ; (tr x) := 3 2 rho iota 6 ; x ; (1 1 tr x) := 8 9 ; x", "[2 3]1 3 5 2 4 6|[2 3]8 3 5 2 9 6");
        shows("x := 5 ; (+ x) := 7 ; x ; (1 , x) := 8 ; x ; (1 same x) := , 9 ; rho x", "7|8|");
        shows("x := 4 5 6 ; (1 1 , x) := 9 8 7 6 5 ; x ; (first x) := enc 1 2 ; x ; (0 take x) := '' ; x", "7 6 5|(1 2) 6 5|(1 2) 6 5");
        shows("x := 4 5 6 ; (0 take x) := 9 ; x ; (2 2 rho x) := 2 2 rho 'abcd' ; x", "4 5 6|dbc");
        shows("x := 1 2 3 ; ((1 1 rho 5) same x) := 7 8 9 ; x", "7 8 9");
        // the WHOLES are 1, 2, 3, .. whatever ORIGIN
        House x = new House();
        x.h.set(0, 0);
        due("ORIGIN 0", x.run("x := 4 5 6 ; (2 drop x) := 9 ; x ; (1 - 1 take x) := 7"), DOMAIN);
        due("ORIGIN 0", x.shown(), "4 5 9\n");
        empty("q := '' ; (3 drop q) := 5", "0", " ");
        ends("x := 1 2 ; (1 take x) := 3", 0, 8 + 3 + 2 + 2 + 2 + 4 + 1 + 2);
        shows("x := iota 1000 ; (rev x) := x ; x[1 1000]", "1000 1");
    }

    private static void chosenWrongly() {
        fails("(1 take x) := 2", VALUE);
        fails("x := + ; (1 take x) := 2", VALUE);
        fails("x := 1 2 ; (3 take x) := 2", DOMAIN);
        fails("x := 1 2 ; (0 * x) := 2", DOMAIN);
        fails("x := 1 2 ; (1 + x) := 2", DOMAIN);
        fails("x := 1 2 ; (1r2 * x) := 2", DOMAIN);
        fails("x := 1 2 ; ('a' , x) := 2", DOMAIN);
        fails("x := 1 2 ; (enc x) := 2", DOMAIN);
        fails("x := 5 ; (2 x) := 7", DOMAIN);
        fails("x := '' ; (1 , x) := 7", DOMAIN);
        // "DOMAIN is looked at first"
        fails("x := 1 2 ; (3 take x) := 1 3 rho 2", DOMAIN);
        fails("x := 1 2 ; (1 + x) := 2 3 4", DOMAIN);
        fails("x := 1 2 ; (2 take x) := 1 2 rho 2", RANK);
        fails("x := 1 2 ; (2 take x) := 1 2 3", LENGTH);
        fails("x := 1 2 ; (1 take x) := ''", LENGTH);
        fails("x := 1 2 ; (first x) := 3 4", RANK);
        fails("x := 999 rho 1 ; (first x) := enc 1 2", LIMIT);
        fails("x := 1 2 ; (+ rank x) := 3", SYNTAX);
        fails("x := 1 2 ; (- x) := 3", DOMAIN);
        fails("x := 1 2 ; (nope , x) := 3", VALUE);
        fails("x := 1 2 ; (x + x) := 3", DOMAIN);
        shows("x := 5 ; (1 x) := 7 ; x", "7");
    }

    /** "that last NAME meaning the value .., as it is when it is met"; the others mean what they mean. */
    private static void chosenNames() {
        shows("x := 3 1 2 ; (x[2] take x) := 9 ; x", "9 1 2");
        shows("x := 2 2 ; (((x := 7 8 9)[1] - 5) take x) := 4 ; x", "4 4");
        shows("x := 1 2 ; ((exe 'x := 9 ; 1') take x) := 4 ; x", "4 2");
        shows("x := 1 2 ; y := 5 6 ; (1 take x) := (1 take y) := 8 ; x ; y", "8 2|8 6");
        shows("x := 1 2 3 ; f := {2 take right} ; (+ f x) := 0 ; x", "0 0 3");
        shows("f := + ; x := 1 ; (f x) := 4 5 ; f x", "4 5");
        shows("x := 5 6 ; ((1 , 1) , x) := 1 2 3 4 ; x", "3 4");
    }

    /** "In the last three the NAME is looked for as told, and means the new value where it was found". */
    private static void foundWhere() {
        shows("x := 1 ; {x + := 5 ; 0} 0 ; x", "0|6");
        shows("x := 1 ; {x := 2 ; x + := 5 ; x} 0 ; x", "7|1");
        shows("x := 1 2 ; {x[1] := 5 ; 0} 0 ; x ; {(1 take x) := 6 ; 0} 0 ; x", "0|5 2|0|6 2");
        shows("{x := 1 ; z := {x + := 5 ; 0} 0 ; x} 0", "6");
        shows("x := 1 2 ; {((exe 'x := 7 8 9 ; 1') take x) := 4 ; x} 0 ; x", "7 8 9|4 2");
        shows("x := 1 ; {x := x ; x + := 1 ; x} 0 ; x", "2|1");
        shows("x := 5 6 ; {x[(x := 7 8 9)[1] - 6] := 1 ; x} 0 ; x", "1 8 9|5 6");
        fails("x := 5 6 ; {x[1 + x := 0] := 1 ; x} 0", RANK);
    }

    /** "none of the five: SYNTAX at once, nothing ahead is worked out". */
    private static void noneOfTheFive() {
        String[] texts = {"5 := 1", "'a' := 1", "left := 1", "self := 1", "{1} := 1", "(5) := 1", "(x 5) := 1", "((x)) := 1",
            "(x[1]) := 1", "x[1][1] := 1", "(x)[1] := 1", "(x y)[1] := 1", "5[1] := 1", "[1] := 1", "+ := 1", "5 + := 1", "(x) + := 1",
            "x[1] + := 1", "+/ := 1", "x +\" := 1", "x rank := 1", ":= 1", "() := 1", "(x +) := 1", "{x} := 1", "(x left) := 1"};
        for (String text : texts) ends("x := 1 2 ; " + text, SYNTAX, 8 + 3);
        fails("{1 : := 1} 0", SYNTAX);
        fails("(:= 1)", SYNTAX);
        // what stands ahead of the text of exe is no part of it, nor is what run()'s text ends by
        ends("x := exe '5' ; 1 + rank", SYNTAX, 1 + 1 + 1 + 1 + 2 + 2 + 1 + 1 + 2);
        ends("x := exe '- 5' ; + .", SYNTAX, 1 + 1 + 1 + 1 + 4 + 3 + 3 + 1 + 1 + 2);
        fails("x := 1 ; (exe ':= 5') , x", SYNTAX);
        fails("x := 1 ; (exe '+ := 5') , x", SYNTAX);
        fails("x := 1 ; (exe '[1] := 5') , x", SYNTAX);
        fails("x := 1 2 ; x[:= 1]", SYNTAX);
    }

    /** := is met ahead of the VECTOR behind it, and of the application. */
    private static void atOnce() {
        ends("5 := 1 2", SYNTAX, 4);
        ends("5 := - 'a'", SYNTAX, 4);
        ends("5 := nope", VALUE, 2);
        ends("nope[1 % 0] := 1", DOMAIN, 1 + 1 + 1 + 1 + 1 + 1 + 3);
        ends("(nope 1 % 0) := 1", SYNTAX, 3);
        ends("5 x := 1", SYNTAX, 5);
        ends("5 (x) := 1", SYNTAX, 5);
        ends("5 x[] := 1", VALUE, 3);
    }

    /** "The VALUE behind any := is the VALUE that stood behind it." */
    private static void valueBehind() {
        shows("1 + x := 5 ; 1 , (a b) := 5 6 ; x := 1 ; 1 , x + := 5 ; x", "6|1 5 6|1 5|6");
        shows("x := 4 5 6 ; 1 , x[2] := 9 ; 1 , (1 take x) := 8 ; x", "1 9|1 8|8 9 6");
        shows("y := x := 5 ; y ; y := (a b) := 1 2 ; y ; x := 0 ; y := x + := 3 ; y", "5|1 2|3");
        shows("x := 4 5 ; y := x[1] := 7 ; y x ; y := (first x) := 6 ; y x", "7 (7 5)|6 (6 5)");
    }

    /** "NAME := FUNCTION as a whole PHRASE: the NAME means that function in the PLACE at hand; its text is kept." */
    private static void functions() {
        shows("f := + ; 1 f 2 ; f := +/ ; f 1 2 3 ; f := {right , 1} ; f 5 ; f := rev[1] ; f 1 2", "3|6|5 1|2 1");
        shows("f := (-) ; 3 f 1 ; f := + rank 0 ; 1 f 2", "2|3");
        shows("{f := + ; 1 f right} 5", "6");
        fails("{f := + ; 1} 0 ; 1 f 2", VALUE);
        fails("f := g", VALUE);
        fails("f := f", VALUE);
        fails("x := 1 ; f := x +", SYNTAX);
        shows("x := 5 ; f := x ; f", "5");
        fails("g := + ; f := g ; g := f ; 1 f 1", LIMIT);
        House x = new House();
        due("texts", x.run("f := {1 : right + 1 # one\n 2} ; h := {left}\" ; 0"), 0);
        due("they are kept", x.run("f 5 ; 7 h 1 2"), 0);
        due("shown", x.shown(), "6\n7 7\n");
        due("in the next run, too", x.run("f 6 ; f := f ; f 1"), LIMIT);
        due("shown", x.shown(), "7\n");
        due("it means itself now", x.run("f 1"), LIMIT);
    }

    /** "each from its first token's first byte to its last one's last; what the NAME meant counts no more". */
    private static void bytesOfFunctions() {
        House x = new House();
        String[][] rows = {{"f := +", "1"}, {"f :=    +   ", "1"}, {"f := + # over", "1"}, {"f := + /", "3"}, {"f := {right}", "7"},
            {"f := { right # a\n }", "14"}, {"g := {left}", "20"}, {"f := rho", "9"}, {"f := 1", "6"},
            {"g := , [ 1 ] /", "9"}, {"f := + rank '''' ; g := 5", "11"}, {"f := {'#;}'}", "7"}};
        for (String[] row : rows) {
            due(row[0], x.run(row[0]), 0);
            due(row[0], x.h.told(3), Integer.parseInt(row[1]));
        }
        due("in a CALL none is counted", x.run("{g := {right} ; g right} 1"), 0);
        due("in a CALL", x.h.told(3), 7);
        due("by exe", x.run("exe 'g :=  + /  ; 1'"), 0);
        due("by exe", x.h.told(3), 10);
    }

    /** "In the HOUSE such texts have together 6000 bytes at most: LIMIT." */
    private static void boundsOfBytes() {
        House x = new House();
        due("3000", x.run("a := {" + many(" ", 2998) + "}"), 0);
        due("5999", x.run("b := {" + many(" ", 2997) + "}"), 0);
        due("told", x.h.told(3), 5999);
        due("two more", x.run("c := +/"), LIMIT);
        due("it means nothing", x.run("c"), VALUE);
        due("one more", x.run("c := +"), 0);
        due("6000", x.h.told(3), 6000);
        due("one more", x.run("d := +"), LIMIT);
        due("what it meant counts no more", x.run("c := -"), 0);
        due("but what is longer", x.run("c := -/"), LIMIT);
        due("it means what it meant", x.run("5 c 3"), 0);
        due("shown", x.shown(), "2\n");
        due("a value is no function", x.run("v := 1 2 3 ; v := +"), LIMIT);
        due("the value stays", x.run("v"), 0);
        due("by exe", x.run("exe 'd := + ; 1'"), LIMIT);
        due("in a CALL", x.run("{d := +/ ; d right} 1 2"), 0);
        due("a value instead", x.run("c := 5"), 0);
        due("told", x.h.told(3), 5999);
        due("a function where a value was", x.run("w := 5 ; " + many("1 ; ", 60) + "w := +"), 0);
        due("told", x.h.told(3), 6000);
        due("a value again", x.run("w := 5"), 0);
        due("told", x.h.told(3), 5999);
        due("forget", x.forget("b"), 2);
        due("told", x.h.told(3), 3000);
        due("room for more", x.run("e := +/ ; d := +"), 0);
        due("told", x.h.told(3), 3003);
        due("a FAULT changes nothing", x.run("( d := -/"), -10);
        due("told", x.h.told(3), 3003);
    }

    /** "A PHRASE ENDS BY := if that was the last of what was done of it (not within a ( ) of it)". */
    private static void endsBy() {
        shows("x := 5", "");
        shows("(x := 5)", "5");
        shows("+ x := 5", "5");
        shows("x := 5 ; x + := 1 ; x := 4 5 ; x[1] := 2 ; (1 take x) := 3 ; (a b) := 1 2 ; f := +", "");
        shows("y := (x := 5) ; y , (x := 6)", "5 6");
        shows("x := 1 2 ; x[y := 1] ; x[1] := (x := 3 4)[2] ; x", "1|4 4");
        shows("x := '' ; x ; ''", "|");
        shows("{x := 5} pow 0 7 ; {x := 5 ; (x)} 0 ; {(x := 5)} 0 ; {+ x := 5} 0", "7|5|5|5");
        fails("{x := 5} 0", VALUE);
        fails("{x := 5 ; x + := 1 ; f := +} 0", VALUE);
        shows("exe 'x := 5' ; {exe 'x := 5'} 0", "5|5");
    }
}
