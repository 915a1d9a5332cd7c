/** Promise 4's language, by the heads of the document's Terms: what is shown, which EVENT comes, FAULTS. */
public final class LanguageTest {
    private static final int SYNTAX = 1;
    private static final int VALUE = 2;
    private static final int RANK = 3;
    private static final int LENGTH = 4;
    private static final int DOMAIN = 5;
    private static final int INDEX = 6;
    private static final int LIMIT = 7;
    private static final int STEPS = 8;

    public static void main(String[] args) {
        values();
        tokens();
        faults();
        phrases();
        syntax();
        indices();
        assignment();
        chosen();
        definitions();
        calls();
        guards();
        executed();
        House.end();
    }

    private static void shows(String text, String want) {
        House.shows(text, want);
    }

    private static void fails(String text, int event) {
        House.fails(text, event);
    }

    private static void values() {
        shows("2000000000", "2000000000");
        fails("2000000000 + 1", LIMIT);
        fails("_2000000000 - 1", LIMIT);
        shows("_2000000000 + 1", "_1999999999");
        fails("1r2000000000 % 2", LIMIT);
        shows("4r6 _4r6 0r5 6r3", "2r3 _2r3 0 2");
        shows("1000 = tally 1000 rho 1", "1");
        fails("1001 rho 1", LIMIT);
        fails("0 1001 rho 1", LIMIT);
        shows("rho 0 1000 1000 rho 1", "0 1000 1000");
        fails("2 501 rho 1", LIMIT);
        shows("rho 1 1 1 1 1 1 rho 1", "1 1 1 1 1 1");
        fails("1 1 1 1 1 1 1 rho 1", LIMIT);
        shows("depth enc enc enc enc enc enc enc 1 2", "8");
        fails("enc enc enc enc enc enc enc enc 1 2", LIMIT);
        shows("tally 500 rho enc , 1", "500");
        fails("501 rho enc , 1", LIMIT);
        // FILLS
        shows("4 take 1 2", "1 2 0 0");
        shows("4 take 'ab'", "ab  ");
        shows("3 take enc 1 'a' (2 3)", "(1 a (2 3)) (0   (0 0)) (0   (0 0))");
        shows("2 take 0 rho enc 1 'a'", "(0  ) (0  )");
        shows("3 take (0 rho enc 1 2) 5", "() 5 ()");
        shows("first 2 take (0 rho enc 1 2) 5", "");
        shows("first 0 rho 5 'a'", "0");
        shows("enc first 0 rho 'a' 5", " ");
        shows("first 0 rho enc 1 'a' (2 3)", "0   (0 0)");
        // ALIKE, MATCH
        shows("'' match 0 rho 0", "0");
        shows("'' match 0 rho 'x'", "1");
        shows("(0 rho enc 1 2) match 0 rho enc 3 4", "1");
        shows("(0 rho enc 1 2) match 0 rho enc 3 4 5", "0");
        shows("(0 2 rho 1) match 0 3 rho 1", "0");
        shows("(, 5) match 5", "0");
        shows("(1 (2 'a')) match 1 (2 'a')", "1");
        shows("1r2 match 2r4", "1");
        // ORDER
        shows("up 3 1 2", "2 3 1");
        shows("up (1 2) 'b' 5 'a' _1 (enc 0)", "5 6 3 4 2 1");
        shows("up (1 2) 'b' 5 'a' _1 (, 9)", "5 3 4 2 6 1");
        shows("up (0 rho 'a') (0 rho 0)", "2 1");
        shows("up (2 1 rho 9) (1 2 rho 0) (3 4)", "3 2 1");
        shows("down 1 3 2 3", "2 4 3 1");
        // ORIGIN
        House x = new House();
        x.h.set(0, 0);
        House.due("origin 0", x.run("iota 3 ; x := 4 5 6 ; x[0 2] ; up 3 1 2 ; +/[0] 2 2 rho iota 4 ; where 0 1 1"), 0);
        House.due("origin 0", x.shown(), "0 1 2\n4 6\n1 2 0\n2 4\n1 2\n");
        House.due("origin 0", x.run("x[3]"), INDEX);
    }

    private static void tokens() {
        shows("abc := 5 ; 1abc", "1 5");
        shows("r4 := 7 ; 2r3r4", "2r3 7");
        shows("r := 3 ; 1r", "1 3");
        shows("_0 _5 _1r2", "0 _5 _1r2");
        shows("1234567890", "1234567890");
        shows("0000000001", "1");
        shows("1r0000000002", "1r2");
        shows("'it''s'", "it's");
        shows("''''", "'");
        shows("rho ''''", "");
        shows("rho ''", "0");
        shows("rho 'a'", "");
        shows("rho 'ab'", "2");
        shows("1 # 2 ; 3\n4", "1|4");
        StringBuilder many = new StringBuilder();
        for (int i = 0; i < 1000; i++) many.append('a');
        shows("rho '" + many + "'", "1000");
        fails("'" + many + "a'", LIMIT);
        House.spends("'" + many + "a'", 2);
        shows("rho " + ones(1000), "1000");
        fails("rho " + ones(1001), LIMIT);
        House.spends(ones(1000), 1 + 1000 + 1000);
        House.spends(ones(1001), 1 + 1001);
        shows("'#' , '1' ; '~' ; '! ~'", "#1|~|! ~");
        shows("1+2", "3");
        shows("3<=3", "1");
        shows("3<2", "0");
        shows("1/=2", "1");
        shows("+/1 2 3", "6");
        shows("x:=5;x", "5");
        shows("a1b2c3d4 := 3 ; a1b2c3d4", "3");
        shows("floora := 2 ; floora", "2");
    }

    private static void fault(String text, int place) {
        House.due("FAULT " + text, new House().run(text), -10 - place);
    }

    private static void faults() {
        fault("1 A", 2);
        fault("1 $ 2", 2);
        fault("\t1", 0);
        fault("12345678901", 0);
        fault("1 2000000001", 2);
        fault("1r2000000001", 0);
        fault("1r12345678901", 0);
        fault("1r0", 0);
        fault("_", 0);
        fault("1 _ 2", 2);
        fault("_a", 0);
        fault("abcdefghi", 0);
        fault("1 abcdefgh9 2", 2);
        fault("'abc", 0);
        fault("1 'ab\nc'", 2);
        fault("'a\tb'", 0);
        fault("'''", 0);
        fault("(1 ; 2)", 3);
        fault("(1 \n 2)", 3);
        fault("x[1 \n 2]", 4);
        fault("1)", 1);
        fault("(1]", 2);
        fault("{(1}", 3);
        fault("1 : 2", 2);
        fault("1 :: 2", 2);
        fault("{(1 : 2)}", 4);
        fault("{1 : 2 : 3}", 7);
        fault("{1 : 2 :: 3}", 7);
        fault("{1 :: 2 : 3}", 8);
        fault("{x[1 : 2]}", 5);
        fault("(1 2", 0);
        fault("(1 [2", 3);
        fault("{(1) [", 5);
        fault("( $", 2);
        fault("[ ] {", 4);
        fault("{1 : {2 : 3 ; 4 : 5} ; 6 : 7", 0);
        fault("exe", -11);
        shows("{1 : {1 : 3 ; 4 : 5} 0 ; 6 : 7} 0", "3");
        fault("&", 0);
        fault("1 # ok $ \n $", 11);
    }

    private static void phrases() {
        shows("2 * 3 + 4", "14");
        shows("(2 * 3) + 4", "10");
        shows("- 5 - 3", "_2");
        shows("1 2 (3 4) 'ab'", "1 2 (3 4) (ab)");
        shows("(1) (2) (3)", "1 2 3");
        shows("((1 2))", "1 2");
        shows("+/ - 1 2 3", "_6");
        shows("1 2 +.* 3 4", "11");
        shows("+/\" (1 2) (3 4)", "3 7");
        shows("1 2 ,@ 3 4", "[2 2](1 3) (1 4) (2 3) (2 4)");
        shows("3 -~ 10", "7");
        shows("+~ 4", "8");
        shows("(+) 5", "5");
        shows("2 (-) 5", "_3");
        shows("(+/) 1 2 3", "6");
        shows("+ rank 0 1 2", "1 2");
        shows("+/ rank 1 (2 3 rho iota 6)", "6 15");
        shows("+/ rank 1 2 3 rho iota 6", "6 15");
        shows("{right , 1} pow 3 5", "5 1 1 1");
        shows("{right , 1} pow (1 + 1) 5", "5 1 1");
        shows("k := 1 2 ; + rank k[2] 5 6", "5 6");
        shows("f := - ; 1 f 2", "_1");
        shows("f := - ; g := f~ ; 1 g 2", "1");
        shows("f := + ; g := f/ ; f := * ; g 2 3 4", "24");
        shows("x := 1 ; (x := 5) + x", "6");
        fails("(x := 5) x", VALUE);
    }

    private static void syntax() {
        fails("+", SYNTAX);
        fails("{right}", SYNTAX);
        fails("1 +", SYNTAX);
        fails("nope +", VALUE);
        fails("(1 + 'a') +", DOMAIN);
        fails("1 / 2", SYNTAX);
        fails("/ 2", SYNTAX);
        fails(". 2", SYNTAX);
        fails("+ rank", SYNTAX);
        fails("+ pow + 1", SYNTAX);
        fails("1 := 2", SYNTAX);
        fails(":= 2", SYNTAX);
        fails("x :=", SYNTAX);
        fails("x := := 2", SYNTAX);
        fails("a b := 2", VALUE);
        fails("a := 1 ; a b := 2", SYNTAX);
        fails("() := 2", SYNTAX);
        fails("() ", VALUE);
        fails("1 ()", VALUE);
        fails("(x := +)", VALUE);
        fails("x[1]", VALUE);
        fails("(1 2)[1] +", SYNTAX);
        fails("+[1] 2", SYNTAX);
        fails("{right}[1] 2", SYNTAX);
        fails("[1] 2", SYNTAX);
        fails("rev[] 1 2", SYNTAX);
        fails("rev[1;1] 1 2", SYNTAX);
        fails("rev[+] 1 2", SYNTAX);
        fails("rev[nope] 1 2", VALUE);
        fails("f := rev ; f[1] 1 2", SYNTAX);
        fails("1 2[+]", SYNTAX);
        fails("1 rev 2", SYNTAX);
        fails("min 2", SYNTAX);
        fails("1 +\\ 2", SYNTAX);
        fails("+@ 2", SYNTAX);
        fails("+.+ 2", SYNTAX);
        fails("1 floor 2", SYNTAX);
        fails(",[1] 2", SYNTAX);
        fails("f := x", VALUE);
        fails("1 f := +", SYNTAX);
        fails("f g := +", SYNTAX);
        fails("left", VALUE);
        fails("right", VALUE);
        fails("self 1", VALUE);
        fails("{left} 1", VALUE);
        fails("f := g ; f 1", VALUE);
        fails("g := + ; f := g ; g := 1 ; f 1", SYNTAX);
        // what is SYNTAX of a [ ] comes ahead of the application behind it
        fails("+[1] rev[5] 1 2", SYNTAX);
        House.spends("1 +", 3);
        House.spends("+[1] 2", 3);
        House.spends("x[1] 2", 4);
        House.spends("rev[1;1] 1 2", 5);
        House.spends("f[1] 2", 4);
        House.spends("f := rev ; f[1] 2", 7);
        House.spends("x :=", 1);
        House.spends(":= 2", 3);
        House.spends("1 := 2 3", 4);
        House.spends("1 min", 3);
        House.spends("+ pow", 2);
        House.spends("+ rank", 2);
        House.spends("+ .", 2);
        House.spends("+ pow + 1", 4);
        House.spends("nope +", 3);
    }

    private static void indices() {
        shows("x := 4 5 6 ; x[2]", "5");
        shows("x := 4 5 6 ; x[3 1]", "6 4");
        shows("x := 4 5 6 ; x[2 2 rho 1 2 3 1]", "[2 2]4 5 6 4");
        shows("x := 4 5 6 ; x[]", "4 5 6");
        shows("x := 4 5 6 ; x[2 3][1]", "5");
        shows("x := 2 3 rho iota 6 ; x[2;]", "4 5 6");
        shows("x := 2 3 rho iota 6 ; x[;2]", "2 5");
        shows("x := 2 3 rho iota 6 ; x[;]", "[2 3]1 2 3 4 5 6");
        shows("x := 2 3 rho iota 6 ; x[2 1;3 1]", "[2 2]6 4 3 1");
        shows("x := 2 3 rho iota 6 ; rho x[, 1;, 2]", "1 1");
        shows("x := 2 2 2 rho iota 8 ; x[;;1] ; x[1;;] ; x[;2;]", "[2 2]1 3 5 7|[2 2]1 2 3 4|[2 2]3 4 7 8");
        shows("x := 2 2 rho iota 4 ; x[x[1;1];2] ; x[{1 ; 2} 5;1] ; x[(x[1;2]);1]", "2|1|3");
        shows("x := 2 2 2 rho iota 8 ; x[;;] ; x[2;1;2]", "[2 2 2]1 2 3 4 5 6 7 8|6");
        fails("x := 2 2 2 rho iota 8 ; x[;;;]", RANK);
        fails("x := 2 2 2 rho iota 8 ; x[;]", RANK);
        fails("x := 2 ; x[;;;;;;;;;;;;;;;;;;;;]", RANK);
        shows("'abc'[2]", "b");
        shows("(1 2) (3 4)[2]", "(1 2) 4");
        fails("x := 4 5 6 ; x[1;1]", RANK);
        fails("5[]", RANK);
        fails("5[1]", RANK);
        fails("x := 2 2 rho 1 ; x[1]", RANK);
        fails("x := 4 5 6 ; x[4]", INDEX);
        fails("x := 4 5 6 ; x[0]", INDEX);
        fails("x := 4 5 6 ; x['a']", DOMAIN);
        fails("x := 4 5 6 ; x[1r2]", DOMAIN);
        fails("x := 2 2 rho 1 ; x[9;'a']", DOMAIN);
        fails("x := 32 rho 1 ; x[7 7 7 7 7 7 7 rho 1]", LIMIT);
        fails("x := 2 2 rho 1 ; x[40 rho 1;40 rho 1]", LIMIT);
        fails("x := 2 2 rho 1 ; x[1 1 1 1 rho 1;1 1 1 rho 1]", LIMIT);
        shows("x := 'abc' ; rho x[0 rho 1]", "0");
        shows("x := 'abc' ; enc first x[0 rho 1]", " ");
        shows("(1 2) (3 4 5)[2]", "(1 2) 4");
    }

    private static void assignment() {
        shows("x := 5", "");
        shows("1 + x := 5", "6");
        shows("x := y := 5 ; x y", "5 5");
        shows("(x := 5)", "5");
        shows("(a b c) := 1 (2 3) 'x' ; a ; b ; c", "1|2 3|x");
        shows("(a b) := 7 ; a b", "7 7");
        shows("(a b) := enc 1 2 ; a ; b", "1 2|1 2");
        shows("(a) := , 3 ; rho a", "");
        shows("(a a) := 1 2 ; a", "1");
        fails("(a b) := 1 2 3", LENGTH);
        fails("(a b) := 1 2 rho 1", RANK);
        fails("(a b) := ''", LENGTH);
        shows("f := + ; (f x) := 1 2 ; f", "1");
        shows("x := 5 ; x + := 3 ; x", "8");
        shows("x := 5 ; 1 , x - := 3 ; x", "1 3|2");
        shows("x := 1 2 ; x , := 3 ; x", "1 2 3");
        fails("x + := 3", VALUE);
        fails("f := + ; f + := 3", VALUE);
        fails("x := 3 ; x floor := 3", SYNTAX);
        fails("x := 1 2 ; x + := 1 2 3", LENGTH);
        fails("x := 1 2 ; x ,[1] := 3", SYNTAX);
        shows("x := 1 2 3 ; x[2] := 9 ; x", "1 9 3");
        shows("x := 1 2 3 ; 7 , x[2] := 9 ; x", "7 9|1 9 3");
        shows("7 , (a b) := 1 2 ; b", "7 1 2|2");
        shows("y := x := 1 2 ; y := x[1] := 5 ; x y", "(5 2) 5");
        shows("x := 1 2 3 ; x[2 2] := 8 9 ; x", "1 9 3");
        shows("x := 1 2 3 ; x[] := 0 ; x", "0 0 0");
        shows("x := 1 2 3 ; x[1 3] := , 7 ; x", "7 2 7");
        shows("x := 1 2 3 ; x[2] := enc 4 5 ; x", "1 (4 5) 3");
        shows("x := 2 2 rho 0 ; x[1;] := 1 2 ; x", "[2 2]1 2 0 0");
        shows("x := 2 2 rho 0 ; x[;2] := 'ab' ; x", "[2 2]0 a 0 b");
        fails("x[1] := 2", VALUE);
        fails("f := + ; f[1] := 2", VALUE);
        fails("x := 1 2 ; x[1;1] := 3", RANK);
        fails("x := 1 2 ; x['a'] := 3", DOMAIN);
        fails("x := 1 2 ; x[3] := 3", INDEX);
        fails("x := 1 2 ; x[1 2] := 1 2 3", LENGTH);
        fails("x := 1 2 ; x[1 2] := 1 2 rho 1", RANK);
        fails("x := 999 rho 1 ; x[1] := enc 1 2", LIMIT);
        fails("x := 1 2 3 ; x[x := 3] := 9", RANK);
        fails("x := 1 2 ; x[1][1] := 3", SYNTAX);
        fails("(x)[1] := 3", SYNTAX);
        shows("x := '' ; x[0 rho 1] := 5 ; first x", " ");
        fails("x := 5 ; x[1] := 2", RANK);
        shows("{x := 5 ; x + right} 1", "6");
        fails("{x := 5 ; x} 1 ; x", VALUE);
        shows("x := 1 ; {x + := 5 ; right} 0 ; x", "0|6");
        shows("x := 1 ; {x := 5 ; x + := 1 ; x} 0 ; x", "6|1");
        shows("x := 1 2 ; {x[1] := 5 ; right} 0 ; x", "0|5 2");
        fails("{a:=1;b:=1;c:=1;d:=1;e:=1;f:=1;g:=1;h:=1;i:=1;j:=1;k:=1;l:=1;m:=1;n:=1;o:=1;p:=1;q:=1;r:=1;s:=1;t:=1"
            + ";u:=1;5} 1", LIMIT);
        shows("{a:=1;b:=1;c:=1;d:=1;e:=1;f:=1;g:=1;h:=1;i:=1;j:=1;k:=1;l:=1;m:=1;n:=1;o:=1;p:=1;q:=1;r:=1;s:=1;t:=1"
            + ";5} 1", "5");
    }

    private static void chosen() {
        shows("x := iota 5 ; (2 take x) := 8 9 ; x", "8 9 3 4 5");
        shows("x := iota 5 ; (_2 take x) := 0 ; x", "1 2 3 0 0");
        shows("x := 2 3 rho iota 6 ; (1 1 tr x) := 0 ; x", "[2 3]0 2 3 4 0 6");
        shows("x := iota 5 ; (1 0 1 0 1 rep x) := 'abc' ; x", "a 2 b 4 c");
        shows("x := iota 5 ; (rev x) := iota 5 ; x", "5 4 3 2 1");
        shows("x := iota 3 ; (1 1 1 , x) := 7 8 9 1 2 3 ; x", "1 2 3");
        shows("x := iota 3 ; (x[2 3] , x) := 9 ; x", "9 9 9");
        shows("x := 'abc' ; (first x) := 'z' ; x", "zbc");
        shows("x := (1 2) 3 ; (first x) := 5 ; x", "5 3");
        shows("x := 5 6 ; 1 + (1 take x) := 7 ; x", "8|7 6");
        fails("(1 take x) := 2", VALUE);
        fails("x := 1 2 ; (3 take x) := 2", DOMAIN);
        fails("x := 1 2 ; (x + 1) := 2", SYNTAX);
        fails("x := 1 2 ; (1 + x) := 2", DOMAIN);
        fails("x := 1 2 ; (2 take x) := 1 2 3", LENGTH);
        fails("x := 1 2 ; (2 take x) := 1 2 rho 3", RANK);
        fails("x := 1 2 ; (enc x) := 3", DOMAIN);
        fails("x := 1 2 ; (f := + rank x) := 3", VALUE);
        fails("x := 1 2 ; (+ rank x) := 3", SYNTAX);
        fails("x := 999 rho 1 ; (1 take x) := enc 1 2", LIMIT);
        // the place's own value is the one that it had when the NAME was met
        shows("x := 1 2 ; (((x := 7 8 9)[1] - 5) take x) := 5 ; x", "5 5");
    }

    private static void definitions() {
        shows("f := + ; 1 f 2", "3");
        shows("f := +", "");
        shows("f := +/ ; f 1 2 3", "6");
        shows("f := {right + 1} ; f 1", "2");
        shows("{f := + ; 1 f right} 2", "3");
        fails("{f := + ; 1} 1 ; 1 f 2", VALUE);
        shows("n := 10 ; f := {right + n} ; {n := 1 ; f right} 5", "15");
        shows("n := 10 ; {n := 1 ; {right + n} right} 5", "6");
        shows("n := 10 ; f := {n} pow 1 ; {n := 1 ; f right} 5", "10");
        shows("{n := 7 ; f := {right + n} ; {n := 1 ; f right} right} 5", "12");
        shows("{{n := 7 ; f := {n + right} ; {f right} right} right} 5", "12");
        shows("{n := 2 ; {n := 7 ; f := {n + right} ; {f right} right} right + n} 5", "14");
        fails("{n := 3 ; 1} 0 ; {n} 0", VALUE);
        shows("k := 1 ; f := {right + 1} pow k ; f 1 ; k := 5 ; f 1", "2|6");
        functionTexts();
        fails("f := f ; f 1", VALUE);
        fails("f := g ; g := f ; f 1", VALUE);
        fails("g := + ; f := g ; g := f ; f 1", LIMIT);
    }

    /** 6000 bytes in the HOUSE; what a NAME meant counts no more; none are counted in a CALL. */
    private static void functionTexts() {
        House x = new House();
        House.due("2000 bytes", x.run("a := {" + ones(998) + "}"), 0);
        House.due("bytes", x.h.told(3), 1997);
        House.due("4000", x.run("b := {" + ones(999) + "} "), 0);
        House.due("6000", x.run("c := {" + ones(999) + "} ; d := + ; e := - ; f := *"), 0);
        House.due("bytes", x.h.told(3), 5998);
        House.due("beyond", x.run("g := {1}"), LIMIT);
        House.due("just so", x.run("g := +/"), 0);
        House.due("bytes", x.h.told(3), 6000);
        House.due("the same NAME anew", x.run("g := -/"), 0);
        House.due("a longer one", x.run("d := +/"), LIMIT);
        House.due("what it meant stays", x.run("1 d 2"), 0);
        House.due("in a CALL", x.run("{h := {" + ones(999) + "} ; 5} 1"), 0);
        House.due("a value instead", x.run("a := 1 ; d := +/"), 0);
        House.due("bytes", x.h.told(3), 6000 - 1997 + 1);
        House.due("they work in a later run", x.run("g 5 3 ; 5 d 3 4"), LENGTH);
        House.due("they work in a later run", x.run("g 5 3 ; d 3 4 ; (c 0) match b 0"), 0);
        House.due("they work in a later run", x.shown(), "2\n7\n1\n");
    }

    /** So many bytes of 1 and blanks less one, the first and the last one 1. */
    private static String ones(int n) {
        StringBuilder b = new StringBuilder("1");
        for (int i = 1; i < n; i++) b.append(" 1");
        return b.toString();
    }

    private static void calls() {
        shows("{right} 5", "5");
        shows("3 {left - right} 5", "_2");
        shows("{1 : 5 ; 6} 0", "5");
        shows("{0 : 5 ; 6} 0", "6");
        shows("{(, 1) : 5 ; 6} 0", "5");
        shows("{1 : x := 5} 0", "5");
        shows("{x := 5 ; ; x} 0", "5");
        shows("{x := 5\n x} 0", "5");
        shows("f := {0 = right : 1 ; right * self right - 1} ; f 5", "120");
        shows("{right , {right * 10} right} 5", "5 50");
        fails("{} 1", VALUE);
        fails("{x := 1} 1", VALUE);
        fails("{0 : 1} 1", VALUE);
        fails("{1 1 : 1} 1", LENGTH);
        fails("{'' : 1} 1", LENGTH);
        fails("{2 : 1} 1", DOMAIN);
        fails("{'a' : 1} 1", DOMAIN);
        fails("{(enc 1 2) : 1} 1", DOMAIN);
        fails("{ : 1} 1", VALUE);
        fails("{1 : } 1", VALUE);
        shows("{0 : ; 3} 1", "3");
        fails("{+ : 1} 1", SYNTAX);
        fails("{1 : +} 1", SYNTAX);
        fails("{1 : f := +} 1", VALUE);
        fails("{+} 1", SYNTAX);
        shows("{f := + ; 1 f 1} 1", "2");
        fails("{self right} 1", LIMIT);
        fails("{self right} pow 1 1", LIMIT);
        shows("{0 = right : 0 ; self right - 1} 39", "0");
        fails("{0 = right : 0 ; self right - 1} 40", LIMIT);
    }

    private static void guards() {
        shows("{5 :: 7 ; right + 'a'} 1", "7");
        fails("{4 :: 7 ; right + 'a'} 1", DOMAIN);
        shows("{0 :: 7 ; right + 'a'} 1", "7");
        shows("{3 4 5 :: 7 ; right + 'a'} 1", "7");
        fails("{'' :: 7 ; right + 'a'} 1", DOMAIN);
        fails("{8 :: 7 ; right} 1", DOMAIN);
        fails("{'a' :: 7 ; right} 1", DOMAIN);
        fails("{(enc 1 2) :: 7 ; right} 1", DOMAIN);
        shows("{5 :: 1 ; 5 :: 2 ; right + 'a'} 1", "2");
        shows("{5 :: 1 ; 4 :: 2 ; right + 'a'} 1", "1");
        shows("{5 :: 1 ; 5 :: 2 + 'b' ; right + 'a'} 1", "1");
        fails("{4 :: 1 ; 5 :: 2 + 'b' ; right + 'a'} 1", DOMAIN);
        shows("{0 :: 9 ; {5 :: 1 + 'c' ; right + 'a'} right} 1", "9");
        shows("{5 :: x ; x := 3 ; right + 'a'} 1", "3");
        shows("{2 :: 8 ; x := 3} 1", "8");
        shows("{7 :: 6 ; self right} 1", "6");
        fails("{0 :: 1 ; {1 + right} pow 2000000000 0} 0", STEPS);
        fails("x := 1000 rho 1 ; {0 :: 1 ; + pow 2000000000 x} 0", STEPS);
        shows("{5 :: x := 4 ; right + 'a'} 1", "4");
        fails("{5 :: ; right + 'a'} 1", VALUE);
        fails("{5 :: f := + ; right + 'a'} 1", VALUE);
        shows("x := 1 ; {3 :: x ; x[] := 5 ; 0} 1", "1");
        shows("{6 :: 0 ; x := 1 2 ; x[3]} 1", "0");
        shows("{1 :: 4 ; 1 +} 1", "4");
        shows("{0 :: right ; left} 3", "3");
        shows("{5 :: 'd' ; +/ right , 'a'} 1 2", "d");
    }

    private static void executed() {
        shows("exe '1 + 2'", "3");
        shows("exe 'a := 1 ; a + 2' ; a", "3|1");
        shows("exe 'a := 5'", "5");
        shows("exe '1 ; 2 ; ;'", "2");
        fails("exe ''", VALUE);
        fails("exe ' ; '", VALUE);
        fails("exe '# 1'", VALUE);
        fails("exe '1 )'", SYNTAX);
        fails("exe '1 : 2'", SYNTAX);
        fails("exe '+'", SYNTAX);
        fails("exe 'f := +'", VALUE);
        shows("exe 'f := + ; 1 f 2'", "3");
        shows("exe '{1 : 2} 0'", "2");
        fails("exe 1 2", DOMAIN);
        fails("exe 1 'a'", DOMAIN);
        fails("exe 5", DOMAIN);
        fails("exe 2 2 rho 'a'", RANK);
        shows("exe '5'", "5");
        fails("exe 'nope'", VALUE);
        shows("{exe 'right + 1'} 5", "6");
        shows("{exe 'x := 3' ; x} 5", "3");
        fails("{x := exe 'y := 3' ; y} 5 ; y", VALUE);
        shows("exe\" '1 + 1' '5 6'", "2 (5 6)");
    }
}
