/**
 * Promise 4 to 8: texts that were made by chance, and what an oracle that was written apart from the program
 * (from the document alone) answered: a text, its answer, at, steps and what was SHOWN.
 */
public final class ChanceTest {
    private static House x = new House();

    public static void main(String[] args) {
        rows1();
        rows2();
        rows3();
        rows4();
        rows5();
        rows6();
        rows7();
        rows8();
        rows9();
        rows10();
        rows11();
        rows12();
        rows13();
        rows14();
        rows15();
        rows16();
        rows17();
        rows18();
        rows19();
        rows20();
        rows21();
        rows22();
        rows23();
        rows24();
        rows25();
        rows26();
        House.end();
    }

    private static void due(String text, int answer, int at, int steps, String shown) {
        House.due(text, x.run(text), answer);
        House.due(text + "  (at)", x.h.at(), at);
        House.due(text + "  (steps)", x.h.steps(), steps);
        House.due(text + "  (shown)", x.shown(), shown);
    }

    private static void rows1() {
        x = new House();
        due("f := {right} ; w := 5 ; a := 3 1 2 ; a := 'q' ; z := 2 2 rho 'ab' 1 2 (3 4) ; x := 2 3 rho iota 6 ; z := '' ; f := + ; z := 0 rho enc 1 2 3 ; x := iota 4 ; g := f/ ; y := 'ab' 'cd' 'ab' ; z := 0 3 rho '' ; w := enc enc 1 2 ; b := 1 0 1 1 ; g := rev", 0, -1, 245,
            "");
        due("/ ({1 g left 'ab' /=})", 1, 0, 4,
            "");
        due("[:= rank] +", 1, 0, 3,
            "");
        x = new House();
        due("x := 1 ; y := 2 3 ; z := 'ab' ; w := 3 4 ; a := 2 2 rho 1 0 ; b := 3 ; f := + ; g := , ; a := 'q' ; a := 3 1 2 ; b := 1 0 1 1 ; g := {0 = right : 1 ; right * self right - 1} ; b := 'hello' ; z := 0 3 rho '' ; f := {right}", 0, -1, 113,
            "");
        due("_3[2 2;3] b ; z ! 4 (ceil) _4", 3, 0, 13,
            "");
        due("w :=  up 3", 3, 0, 6,
            "");
        due("6 ''' ' ; 4 'z ' z ; z := 'zb' take 8", 5, 2, 25,
            "6 (' )\n4 (z ) ([0 3])\n");
        x = new House();
        due("b := 'hello' ; f := + ; x := 3 0 rho 0 ; x := 2 3 rho iota 6 ; z := 0 rho enc 1 2 3 ; w := 2 2 2 rho iota 8 ; b := 1 0 1 1 ; g := {0 = right : 1 ; right * self right - 1} ; z := '' ; a := 3 1 2 ; y := 'abc' (1 2) 5 ; z := 2 2 rho 'ab' 1 2 (3 4)", 0, -1, 249,
            "");
        due("w :=  split  f x[2; %  , 2] _3r5 z x ; exe 'w z 5 y'", 5, 0, 24,
            "");
        due("x[ {3 _2 rep 4\nf := part} 'ba'] := y['a' x 2] z", 5, 0, 33,
            "");
        x = new House();
        due("x := 1 ; y := 2 3 ; z := 'ab' ; w := 3 4 ; a := 2 2 rho 1 0 ; b := 3 ; f := + ; g := , ; w := 2 2 2 rho iota 8 ; f := + ; y := 'abc' (1 2) 5 ; x := 3 0 rho 0 ; b := 1 0 1 1 ; x := 2 3 rho iota 6 ; a := 3 1 2 ; w := 5 ; a := 'q' ; y := (2 2 rho 1 2 3 4) (enc 1 2) 'a'", 0, -1, 279,
            "");
        due("rev x[1] mix", 3, 0, 12,
            "");
        due("((. + nope (f)) x {iota / \"} {[1] \" x[1]} +) key \\ (+ {(+) / x +} [{right} left x[1] f]) ''", 3, 0, 15,
            "");
        x = new House();
        due("x := 1 ; y := 2 3 ; z := 'ab' ; w := 3 4 ; a := 2 2 rho 1 0 ; b := 3 ; f := + ; g := , ; z := 0 rho enc 1 2 3 ; w := 5 ; f := + ; b := 'hello' ; y := 'abc' (1 2) 5 ; b := 1 0 1 1 ; y := 'ab' 'cd' 'ab' ; w := 2 2 2 rho iota 8 ; w := enc enc 1 2 ; x := iota 4 ; x := 2 3 rho iota 6 ; z := ''", 0, -1, 299,
            "");
        due("(_1 3 w) 3 'za'[3 2;3 y] ''", 3, 0, 36,
            "");
        due("x := w match b 1", 0, -1, 25,
            "");
        due("x same :=  ! ' ''''' ; 2 0 4 'a'", 5, 0, 8,
            "");
        x = new House();
        due("x := 1 ; y := 2 3 ; z := 'ab' ; w := 3 4 ; a := 2 2 rho 1 0 ; b := 3 ; f := + ; g := , ; g := f/ ; b := 'hello' ; x := iota 4 ; x := 2 3 rho iota 6 ; f := {left , right} ; y := 'abc' (1 2) 5 ; b := 1 0 1 1 ; z := 2 2 rho 'ab' 1 2 (3 4) ; z := 0 3 rho ''", 0, -1, 227,
            "");
        x.h.set(0, 1);
        due("exe '(28 or 3[])[2] '''' /=/ rank (0 1) (''c'' max pow _1 0[;1 b 3 ! 2 3 z]) y 3 b' ; w := x z + z b ;  ?  mix  floor z 3 ( first 1r5 2)", 3, 0, 127,
            "");
        due("_3 4 * ( ,[(enc 1 2)] 13 4) (b := _4 y x 4 expand 4 w)", 5, 0, 55,
            "");
        x = new House();
        due("x := 1 ; y := 2 3 ; z := 'ab' ; w := 3 4 ; a := 2 2 rho 1 0 ; b := 3 ; f := + ; g := , ; w := 5 ; b := 'hello' ; x := 3 0 rho 0 ; g := f/ ; y := (2 2 rho 1 2 3 4) (enc 1 2) 'a' ; y := 'abc' (1 2) 5 ; a := 1r2 _3 4 ; x := 2 3 rho iota 6 ; f := {right} ; x := iota 4 ; y := 'ab' 'cd' 'ab' ; f := + ; g := rev", 0, -1, 268,
            "");
        due("y[2] :=  mix 0 (_1r3) {0 4 a 'a' ? 2} w", 4, 0, 36,
            "");
        due("z := 22 ; y := 3 ! 0 x > ( first 14) y y + 2", 5, 1, 60,
            "");
        x.h.set(0, 0);
        x = new House();
        due("y := (2 2 rho 1 2 3 4) (enc 1 2) 'a' ; z := 2 2 rho 'ab' 1 2 (3 4) ; b := 'hello' ; x := 2 3 rho iota 6 ; g := rev ; f := + ; b := 1 0 1 1 ; x := 3 0 rho 0 ; z := ''", 0, -1, 191,
            "");
        due("exe '2 y _2 _3'", 0, -1, 46,
            "2 (([2 2]1 2 3 4) ((1 2)) a) _2 _3\n");
        due(" same w", 2, 0, 2,
            "");
        due("x := x f  not ( iota  enl _6r1 'cac''' find y z) 3", 5, 0, 73,
            "");
        x = new House();
        due("x := 1 ; y := 2 3 ; z := 'ab' ; w := 3 4 ; a := 2 2 rho 1 0 ; b := 3 ; f := + ; g := , ; b := 1 0 1 1 ; x := 2 3 rho iota 6 ; w := enc enc 1 2 ; a := 3 1 2 ; x := 3 0 rho 0 ; y := 'abc' (1 2) 5 ; z := 2 2 rho 'ab' 1 2 (3 4)", 0, -1, 235,
            "");
        due("x := enc enc enc 1[3;1 1] ; enc enc enc enc x ; enc enc enc enc enc enc x", 3, 0, 12,
            "");
        due("{{{{{right}}}}} 1", 1, 0, 7,
            "");
        x = new House();
        due("x := 1 ; y := 2 3 ; z := 'ab' ; w := 3 4 ; a := 2 2 rho 1 0 ; b := 3 ; f := + ; g := , ; z := '' ; f := + ; x := iota 4 ; y := 'abc' (1 2) 5 ; z := 0 rho enc 1 2 3 ; f := {left , right} ; x := 2 3 rho iota 6 ; g := {0 = right : 1 ; right * self right - 1} ; x := 3 0 rho 0 ; z := 2 2 rho 'ab' 1 2 (3 4) ; b := 'hello' ; w := 2 2 2 rho iota 8 ; f := {right}", 0, -1, 303,
            "");
        due("+/ iota 20", 0, -1, 126,
            "210\n");
        due("x := 501 rho enc 8 rho 1", 7, 0, 48,
            "");
    }

    private static void rows2() {
        x = new House();
        due("x := 1 ; y := 2 3 ; z := 'ab' ; w := 3 4 ; a := 2 2 rho 1 0 ; b := 3 ; f := + ; g := , ; x := 3 0 rho 0 ; x := iota 4 ; a := 'q' ; y := 'ab' 'cd' 'ab' ; w := 5 ; w := 2 2 2 rho iota 8 ; z := 2 2 rho 'ab' 1 2 (3 4) ; y := (2 2 rho 1 2 3 4) (enc 1 2) 'a' ; x := 2 3 rho iota 6 ; f := {right} ; w := enc enc 1 2 ; z := 0 rho enc 1 2 3 ; g := f/ ; y := 'abc' (1 2) 5", 0, -1, 405,
            "");
        due("?  'zz'", 5, 0, 6,
            "");
        x.h.set(0, 0);
        due("iota 10 1 7 10 10 6 10", 7, 0, 24,
            "");
        x = new House();
        due("x := 1 ; y := 2 3 ; z := 'ab' ; w := 3 4 ; a := 2 2 rho 1 0 ; b := 3 ; f := + ; g := , ; z := 0 3 rho '' ; w := 2 2 2 rho iota 8 ; y := 'ab' 'cd' 'ab' ; x := 2 3 rho iota 6 ; f := + ; f := {left , right} ; g := rev ; f := {right} ; a := 1r2 _3 4 ; a := 3 1 2 ; z := 0 rho enc 1 2 3 ; x := 3 0 rho 0 ; w := 5", 0, -1, 263,
            "");
        due("{left + right}~ iota 5", 0, -1, 59,
            "2 4 6 8 10\n");
        x.h.set(0, 1);
        due("5 5 6 rho iota 1001", 7, 0, 6,
            "");
        x = new House();
        due("y := (2 2 rho 1 2 3 4) (enc 1 2) 'a' ; f := + ; z := '' ; g := rev ; b := 'hello' ; z := 0 rho enc 1 2 3 ; w := 2 2 2 rho iota 8 ; x := 3 0 rho 0 ; b := 1 0 1 1 ; a := 'q' ; x := 2 3 rho iota 6 ; w := 5", 0, -1, 231,
            "");
        due("{6 :: v ; f := right 'b' _2r6 a ; 7 :: right ; 4 :: right}/ y ; x ; f 1", 2, 0, 41,
            "");
        due("q := { union/ 1001 ; 6 :: v := 9 ; _4 0 3 match  * 1 (_9r2 enco 6r4) (x 3 999 % a _1)[3] 4 max 1 ; 1 :: x} 1", 0, -1, 15,
            "");
        x = new House();
        due("x := 1 ; y := 2 3 ; z := 'ab' ; w := 3 4 ; a := 2 2 rho 1 0 ; b := 3 ; f := + ; g := , ; y := 'ab' 'cd' 'ab' ; x := iota 4 ; z := '' ; y := (2 2 rho 1 2 3 4) (enc 1 2) 'a' ; w := 5 ; g := {0 = right : 1 ; right * self right - 1} ; a := 'q' ; b := 'hello'", 0, -1, 178,
            "");
        due("w ( same y a {1 : y ? _1 ; a[0] := 21} y match 500 'bzc ') w", 4, 0, 78,
            "");
        due("x pick (4 > _9r6) 3 a , _5r4 b 27 4 deco _3 (a 8r1 iota w up  same 4 x _2) x ; a := _3 penc z z", 1, 0, 32,
            "");
        due("z := 100 4 iota 500", 0, -1, 14,
            "");
        x = new House();
        due("x := 1 ; y := 2 3 ; z := 'ab' ; w := 3 4 ; a := 2 2 rho 1 0 ; b := 3 ; f := + ; g := , ; z := 2 2 rho 'ab' 1 2 (3 4) ; g := {0 = right : 1 ; right * self right - 1} ; b := 1 0 1 1 ; x := iota 4 ; a := 3 1 2 ; x := 2 3 rho iota 6 ; g := f/ ; f := {left , right} ; a := 'q'", 0, -1, 201,
            "");
        due("(0 take w) := 2 ( split '''''cb' a) = y '''' {'' inter x} ((a penc := _1 4 ^ _6r6) z) x", 4, 0, 22,
            "");
        due("'a''' {0 : _4 w\n7 :: 27}  enc ( mix 3 _2000000000 ( iota 10 _4) 0[])", 3, 0, 5,
            "");
        due("' ' g (0 mem w)[0;1 _3 'zz''' 100 inter 4;] 0 b >= rank _1  | 0", 3, 0, 46,
            "");
        x = new House();
        due("x := 1 ; y := 2 3 ; z := 'ab' ; w := 3 4 ; a := 2 2 rho 1 0 ; b := 3 ; f := + ; g := , ; f := {right} ; z := 2 2 rho 'ab' 1 2 (3 4) ; g := f/ ; x := iota 4 ; z := 0 3 rho '' ; x := 3 0 rho 0 ; g := rev ; a := 'q' ; z := 0 rho enc 1 2 3 ; f := {left , right} ; x := 2 3 rho iota 6 ; w := 2 2 2 rho iota 8 ; y := (2 2 rho 1 2 3 4) (enc 1 2) 'a' ; w := 5 ; a := 1r2 _3 4", 0, -1, 359,
            "");
        due("f := enl", 0, -1, 3,
            "");
        due(" f 4 z z ? w a[1;2;] ; x := a (x z 3 <= _1 z b) (4 15) x or 1 ;  fmt ( ceil z)", 3, 0, 10,
            "");
        due("(,  w) := (1[ floor '''' y] _4) 30 ' ''' (w <  iota  tally '' _4)", 5, 0, 56,
            "");
        x = new House();
        due("x := 1 ; y := 2 3 ; z := 'ab' ; w := 3 4 ; a := 2 2 rho 1 0 ; b := 3 ; f := + ; g := , ; x := iota 4 ; a := 1r2 _3 4 ; w := 2 2 2 rho iota 8 ; f := {left , right} ; z := 0 rho enc 1 2 3 ; y := (2 2 rho 1 2 3 4) (enc 1 2) 'a' ; a := 3 1 2 ; a := 'q'", 0, -1, 244,
            "");
        due("w := 'b' y[;0 1] min~ 11 match x ( where 0 rot a)", 3, 0, 12,
            "");
        due("4", 0, -1, 2,
            "4\n");
        x = new House();
        due("x := 1 ; y := 2 3 ; z := 'ab' ; w := 3 4 ; a := 2 2 rho 1 0 ; b := 3 ; f := + ; g := , ; b := 1 0 1 1 ; g := {0 = right : 1 ; right * self right - 1} ; f := + ; a := 'q' ; z := '' ; a := 1r2 _3 4 ; y := 'ab' 'cd' 'ab' ; g := f/ ; z := 0 3 rho '' ; y := (2 2 rho 1 2 3 4) (enc 1 2) 'a' ; w := 5 ; y := 'abc' (1 2) 5 ; z := 0 rho enc 1 2 3", 0, -1, 258,
            "");
        due("(same x) := x", 0, -1, 11,
            "");
        x.h.set(0, 0);
        due("g := !", 0, -1, 3,
            "");
        x = new House();
        due("x := 1 ; y := 2 3 ; z := 'ab' ; w := 3 4 ; a := 2 2 rho 1 0 ; b := 3 ; f := + ; g := , ; g := rev ; f := + ; b := 1 0 1 1 ; a := 3 1 2 ; b := 'hello' ; g := f/ ; a := 1r2 _3 4 ; a := 'q' ; x := iota 4", 0, -1, 132,
            "");
        due("32 rho 'ca'", 0, -1, 40,
            "cacacacacacacacacacacacacacacaca\n");
        due("{0 = right : 0 ; self right - 1} 40", 7, 0, 765,
            "");
        x = new House();
        due("x := 1 ; y := 2 3 ; z := 'ab' ; w := 3 4 ; a := 2 2 rho 1 0 ; b := 3 ; f := + ; g := , ; g := rev ; y := (2 2 rho 1 2 3 4) (enc 1 2) 'a' ; b := 1 0 1 1 ; a := 1r2 _3 4 ; z := 0 rho enc 1 2 3 ; w := 5 ; z := '' ; w := enc enc 1 2 ; z := 2 2 rho 'ab' 1 2 (3 4) ; x := iota 4", 0, -1, 277,
            "");
        due("x := enc enc enc ' a' ; enc enc enc enc x ; enc enc enc enc enc enc x", 7, 2, 179,
            "((((((( a)))))))\n");
        due("{{{{{right}}}}} 1", 1, 0, 7,
            "");
        due("_30 rho 3", 5, 0, 7,
            "");
    }

    private static void rows3() {
        x = new House();
        due("x := 1 ; y := 2 3 ; z := 'ab' ; w := 3 4 ; a := 2 2 rho 1 0 ; b := 3 ; f := + ; g := , ; w := 2 2 2 rho iota 8 ; w := 5 ; z := 2 2 rho 'ab' 1 2 (3 4) ; g := {0 = right : 1 ; right * self right - 1} ; f := + ; x := 3 0 rho 0 ; w := enc enc 1 2 ; b := 'hello' ; z := 0 rho enc 1 2 3 ; f := {left , right} ; y := 'abc' (1 2) 5", 0, -1, 275,
            "");
        due("2000000000 /=  enl  ! 0 2 999", 7, 0, 13,
            "");
        x.h.set(0, 0);
        due("b := ( <= x) a 123456789 + 0 'b' ; a[] :=  not '' { ; 0 : 22 tr 2 >=  floor 0 b 1 ; y :=  ! (a)}  tally x", 1, 0, 11,
            "");
        x = new House();
        due("x := 1 ; y := 2 3 ; z := 'ab' ; w := 3 4 ; a := 2 2 rho 1 0 ; b := 3 ; f := + ; g := , ; x := 2 3 rho iota 6 ; a := 3 1 2 ; y := (2 2 rho 1 2 3 4) (enc 1 2) 'a' ; z := '' ; y := 'abc' (1 2) 5 ; f := + ; z := 2 2 rho 'ab' 1 2 (3 4) ; a := 1r2 _3 4 ; w := enc enc 1 2 ; x := iota 4 ; w := 5 ; z := 0 rho enc 1 2 3 ; f := {right} ; z := 0 3 rho '' ; x := 3 0 rho 0", 0, -1, 363,
            "");
        due("{x : f := + ;  iota _1[2 0] (right take 27 3)} x", 4, 0, 6,
            "");
        due("f := g ; { ,  uniq (x b w) :=  same 'zcz'[3 _4 1 4 ! a] ; self x} 1 ; v", 4, 1, 28,
            "");
        x = new House();
        due("x := 1 ; y := 2 3 ; z := 'ab' ; w := 3 4 ; a := 2 2 rho 1 0 ; b := 3 ; f := + ; g := , ; g := rev ; f := {left , right} ; z := '' ; b := 1 0 1 1 ; y := (2 2 rho 1 2 3 4) (enc 1 2) 'a' ; a := 'q' ; w := 2 2 2 rho iota 8 ; w := 5 ; y := 'abc' (1 2) 5 ; x := 2 3 rho iota 6", 0, -1, 262,
            "");
        due("2 enco 1999999999", 0, -1, 8,
            "1\n");
        due("(iota 40) + . , iota 5", 4, 0, 104,
            "");
        x = new House();
        due("x := 1 ; y := 2 3 ; z := 'ab' ; w := 3 4 ; a := 2 2 rho 1 0 ; b := 3 ; f := + ; g := , ; w := 5 ; z := 0 rho enc 1 2 3 ; g := f/ ; b := 1 0 1 1 ; w := 2 2 2 rho iota 8 ; f := {right} ; w := enc enc 1 2 ; x := 2 3 rho iota 6 ; y := (2 2 rho 1 2 3 4) (enc 1 2) 'a' ; f := + ; z := 0 3 rho '' ; g := rev ; x := iota 4 ; a := 1r2 _3 4 ; a := 3 1 2 ; f := {left , right}", 0, -1, 347,
            "");
        due("{1 :: 100 (1 4 or 2) 1 ( % y _1) deco 3 ( depth a) 4 3[z 1;] take (15) deco _8r1 _1 0 ; {{3 4 5 :: } 1 ; exe 'v := 1 ; f := -' ; f x} v ; (v u) := 2 rot (0 _3 7r6 % _1 3) ; v[1] := '''zac' w a _2000000000} y", 2, 0, 18,
            "");
        due("x {4 :: left ; 0 :: v := 9 ; f := {0 :: ( up _4 2 _8r2 w) a 'a' ; 1 + 'a'}} x", 0, -1, 24,
            "9\n");
        due("q := 1 {0 :: x ; depth right : self 0} x", 0, -1, 47,
            "");
        x = new House();
        due("x := 1 ; y := 2 3 ; z := 'ab' ; w := 3 4 ; a := 2 2 rho 1 0 ; b := 3 ; f := + ; g := , ; z := 0 rho enc 1 2 3 ; z := 2 2 rho 'ab' 1 2 (3 4) ; g := rev ; y := 'abc' (1 2) 5 ; f := + ; y := (2 2 rho 1 2 3 4) (enc 1 2) 'a' ; b := 'hello' ; x := 2 3 rho iota 6 ; z := '' ; a := 3 1 2", 0, -1, 293,
            "");
        due("3", 0, -1, 2,
            "3\n");
        due("0 x ; f := union/[1r2] ; f := (max)", 0, -1, 20,
            "0 ([2 3]1 2 3 4 5 6)\n");
        due("b := b := 2 1 2 y[] > 3 3 tr (z (x :=  ! 3) (0) y)", 4, 0, 51,
            "");
        x = new House();
        due("x := 1 ; y := 2 3 ; z := 'ab' ; w := 3 4 ; a := 2 2 rho 1 0 ; b := 3 ; f := + ; g := , ; w := enc enc 1 2 ; g := f/ ; f := {right} ; z := 2 2 rho 'ab' 1 2 (3 4) ; x := iota 4 ; f := {left , right} ; z := 0 3 rho '' ; a := 'q' ; b := 'hello' ; a := 1r2 _3 4 ; a := 3 1 2", 0, -1, 205,
            "");
        due("(b y) := 'cb' ; 0 without (y rho x)[2;;x 'c''z' find 1] 2 ; 2 4 <  mem/ ( rho 4 4 'c ') ( ? 4)[0 take _4;2000000000 a 1 * 3;0 3] w", 5, 1, 43,
            "");
        due("'z' rot[2] 0 b 'b' ; 'cc' _2", 6, 0, 15,
            "");
        x = new House();
        due("x := 1 ; y := 2 3 ; z := 'ab' ; w := 3 4 ; a := 2 2 rho 1 0 ; b := 3 ; f := + ; g := , ; a := 3 1 2 ; f := + ; y := 'ab' 'cd' 'ab' ; a := 1r2 _3 4 ; g := f/ ; a := 'q' ; g := {0 = right : 1 ; right * self right - 1} ; f := {left , right}", 0, -1, 122,
            "");
        due("+", 1, 0, 2,
            "");
        due("iota {right} take exe f", 1, 0, 4,
            "");
        x = new House();
        due("x := 1 ; y := 2 3 ; z := 'ab' ; w := 3 4 ; a := 2 2 rho 1 0 ; b := 3 ; f := + ; g := , ; z := 0 rho enc 1 2 3 ; z := '' ; w := 2 2 2 rho iota 8 ; g := rev ; a := 'q' ; z := 2 2 rho 'ab' 1 2 (3 4) ; y := (2 2 rho 1 2 3 4) (enc 1 2) 'a' ; w := enc enc 1 2 ; f := {left , right} ; y := 'abc' (1 2) 5 ; b := 'hello' ; g := {0 = right : 1 ; right * self right - 1} ; a := 1r2 _3 4 ; z := 0 3 rho ''", 0, -1, 348,
            "");
        due("(((((1 + 1)))))", 0, -1, 13,
            "2\n");
        due("100 33 rho 1", 7, 0, 11,
            "");
        x = new House();
        due("x := 1 ; y := 2 3 ; z := 'ab' ; w := 3 4 ; a := 2 2 rho 1 0 ; b := 3 ; f := + ; g := , ; f := + ; a := 1r2 _3 4 ; g := rev ; w := 5 ; b := 1 0 1 1 ; z := 0 3 rho '' ; x := iota 4 ; g := {0 = right : 1 ; right * self right - 1} ; a := 'q' ; z := '' ; y := (2 2 rho 1 2 3 4) (enc 1 2) 'a'", 0, -1, 189,
            "");
        due("(a a b) := 9 'bbz ' ! ( down  enl ('''' b) 3 4) w 28 13 ; (x) := a ; (b without w y y) x 3 (1) (iota) 2 w 5r4 0 or ( ? y)", 4, 0, 98,
            "");
        due("g := /=", 0, -1, 3,
            "");
        x = new House();
        due("x := 1 ; y := 2 3 ; z := 'ab' ; w := 3 4 ; a := 2 2 rho 1 0 ; b := 3 ; f := + ; g := , ; z := 0 rho enc 1 2 3 ; b := 'hello' ; f := {right} ; y := (2 2 rho 1 2 3 4) (enc 1 2) 'a' ; a := 1r2 _3 4 ; f := + ; y := 'ab' 'cd' 'ab' ; w := 5 ; f := {left , right} ; x := 3 0 rho 0 ; w := 2 2 2 rho iota 8 ; g := f/ ; b := 1 0 1 1 ; z := '' ; g := rev", 0, -1, 293,
            "");
        due("right exe", 2, 0, 3,
            "");
        due("{.} =", 1, 0, 3,
            "");
    }

    private static void rows4() {
        x = new House();
        due("x := 1 ; y := 2 3 ; z := 'ab' ; w := 3 4 ; a := 2 2 rho 1 0 ; b := 3 ; f := + ; g := , ; y := 'ab' 'cd' 'ab' ; f := + ; z := 0 3 rho '' ; x := 3 0 rho 0 ; x := 2 3 rho iota 6 ; g := {0 = right : 1 ; right * self right - 1} ; x := iota 4 ; y := (2 2 rho 1 2 3 4) (enc 1 2) 'a' ; w := enc enc 1 2 ; g := rev ; w := 5 ; b := 'hello' ; a := 'q' ; a := 3 1 2 ; f := {right}", 0, -1, 282,
            "");
        due("((1 0 1) rep a) := z b x 3 same 2", 0, -1, 62,
            "");
        due("(a w) := x x[4r5 3 without 0 z;1 2;0] ; _4r5 ; z 'c' ( split _2r6 < 23 _3) (3 (a :=  rho y 'a' z 1))", 3, 0, 33,
            "");
        due("y := (19 28 (4r1 'cb')[]) pick/ 'aa''''' _3 _4 y rho 2 4 ; 4 ;  (max)/[x] ( uniq  enl 1 w rho b y) (rev) b", 5, 0, 50,
            "");
        x = new House();
        due("x := 1 ; y := 2 3 ; z := 'ab' ; w := 3 4 ; a := 2 2 rho 1 0 ; b := 3 ; f := + ; g := , ; w := 5 ; x := 2 3 rho iota 6 ; g := rev ; z := '' ; w := enc enc 1 2 ; z := 0 rho enc 1 2 3 ; f := {left , right} ; g := f/ ; y := 'ab' 'cd' 'ab' ; x := iota 4 ; x := 3 0 rho 0 ; b := 'hello'", 0, -1, 231,
            "");
        due("(foo +) key rank", 1, 0, 2,
            "");
        due("(x) {x[1] 1r2 iota [\"]} x[1] [1]", 3, 0, 6,
            "");
        due("f", 1, 0, 3,
            "");
        x = new House();
        due("x := 1 ; y := 2 3 ; z := 'ab' ; w := 3 4 ; a := 2 2 rho 1 0 ; b := 3 ; f := + ; g := , ; a := 'q' ; z := 0 3 rho '' ; z := '' ; x := 2 3 rho iota 6 ; f := {right} ; b := 1 0 1 1 ; f := + ; y := 'abc' (1 2) 5 ; f := {left , right} ; g := {0 = right : 1 ; right * self right - 1} ; g := f/", 0, -1, 171,
            "");
        due("{{{right}}} 1", 1, 0, 7,
            "");
        due("{1 + right} pow 2000000000 0", 8, 0, 39998,
            "");
        due("{left * right + 1}/ 40 rho 1", 0, -1, 794,
            "40\n");
        x = new House();
        due("x := 1 ; y := 2 3 ; z := 'ab' ; w := 3 4 ; a := 2 2 rho 1 0 ; b := 3 ; f := + ; g := , ; a := 1r2 _3 4 ; g := f/ ; z := 0 3 rho '' ; a := 'q' ; z := '' ; a := 3 1 2 ; b := 'hello' ; f := {right} ; g := rev ; z := 0 rho enc 1 2 3 ; w := 5 ; g := {0 = right : 1 ; right * self right - 1}", 0, -1, 158,
            "");
        x.h.set(0, 0);
        due("40 100 rho 1", 7, 0, 11,
            "");
        x.h.set(0, 1);
        x = new House();
        due("x := 1 ; y := 2 3 ; z := 'ab' ; w := 3 4 ; a := 2 2 rho 1 0 ; b := 3 ; f := + ; g := , ; a := 'q' ; a := 1r2 _3 4 ; y := (2 2 rho 1 2 3 4) (enc 1 2) 'a' ; f := + ; w := 2 2 2 rho iota 8 ; a := 3 1 2 ; g := rev ; x := 2 3 rho iota 6 ; x := iota 4 ; g := {0 = right : 1 ; right * self right - 1} ; g := f/ ; z := '' ; b := 1 0 1 1 ; y := 'ab' 'cd' 'ab'", 0, -1, 300,
            "");
        due("q := {x , := w[1;0] :=  ,[_1] '' 'cc ' ; (u x) := v :=  !  rev  * 1[;3 0] z x 26} 2 3 ; x ; f 1", 1, 0, 21,
            "");
        due("1 {{f := {2 :: left ; 1 2 :: v := 9} ; {0 :: v ;  tr  (mix) 4 ; exe '1 +'} 1 ; 2 :: u} 1 ; {5 :: 0[4 ! w] min  iota right ; 1 ; v := {exe 'v := 1 ; f := -' ;  gcd/[1 2]  * 1} ; right : v := right} x} 1 ; v", 2, 1, 38,
            "4\n");
        x.h.set(0, 0);
        x = new House();
        due("x := 1 ; y := 2 3 ; z := 'ab' ; w := 3 4 ; a := 2 2 rho 1 0 ; b := 3 ; f := + ; g := , ; x := 3 0 rho 0 ; f := {right} ; g := {0 = right : 1 ; right * self right - 1} ; z := 0 3 rho '' ; b := 'hello' ; f := + ; b := 1 0 1 1 ; w := enc enc 1 2 ; g := rev ; a := 3 1 2 ; z := 0 rho enc 1 2 3", 0, -1, 186,
            "");
        due("a := _1 | x 2 (w b = (x b) :=  * 1 _3 drop ( rho 3 w y 0)) penc 1 ; b :=  take w b 2 ; z 1", 4, 0, 42,
            "");
        due("a := 'a ' lcm 2000000000 4 w (<=) 'c' ; f := union", 5, 0, 24,
            "");
        x = new House();
        due("x := 1 ; y := 2 3 ; z := 'ab' ; w := 3 4 ; a := 2 2 rho 1 0 ; b := 3 ; f := + ; g := , ; y := (2 2 rho 1 2 3 4) (enc 1 2) 'a' ; w := enc enc 1 2 ; b := 1 0 1 1 ; y := 'abc' (1 2) 5 ; w := 2 2 2 rho iota 8 ; x := iota 4 ; a := 1r2 _3 4 ; a := 'q' ; a := 3 1 2 ; x := 2 3 rho iota 6", 0, -1, 311,
            "");
        due(" rho 'a' b ; x := (x 4 x 4 pick x y) take 4", 3, 1, 94,
            "2\n");
        due("z := z 'c''' 'cz' y ; f := {4 lcm z 10}", 0, -1, 45,
            "");
        x = new House();
        due("x := 1 ; y := 2 3 ; z := 'ab' ; w := 3 4 ; a := 2 2 rho 1 0 ; b := 3 ; f := + ; g := , ; x := 3 0 rho 0 ; f := + ; z := 0 rho enc 1 2 3 ; g := rev ; z := 2 2 rho 'ab' 1 2 (3 4) ; z := '' ; x := 2 3 rho iota 6 ; g := f/ ; b := 1 0 1 1 ; a := 3 1 2", 0, -1, 231,
            "");
        due("f := g ; 1 {0 :: x ; u := (x z w) := a 2 _4 -  tr '' ;  iota  pick 0 inter _4 1 1}\" 2 3 ; x ; f 1", 7, 3, 167,
            "([2 3]1 2 3 4 5 6) ([2 3]1 2 3 4 5 6)\n[2 3]1 2 3 4 5 6\n");
        due("q := {1 1 : self 0 ; 6 :: 1 + 'a'} 1 ; x ; f 1", 4, 0, 11,
            "");
        due("{g := {f := 3}} 0 ; v", 2, 0, 8,
            "");
        x = new House();
        due("y := 'abc' (1 2) 5 ; z := 0 3 rho '' ; a := 1r2 _3 4 ; z := '' ; a := 3 1 2 ; x := 2 3 rho iota 6 ; y := (2 2 rho 1 2 3 4) (enc 1 2) 'a' ; x := iota 4 ; z := 2 2 rho 'ab' 1 2 (3 4) ; w := 5 ; g := f/ ; w := enc enc 1 2 ; x := 3 0 rho 0", 2, 10, 230,
            "");
        due("x {1 ::  enco\\ right ; {1 :: ( + 7) | 0 1} v}\" 2 3 ; v", 4, 0, 15,
            "");
        x.h.set(0, 0);
        due("{1 + 'a' ; (_1 rot a) := 0 'c'[0 1] _2000000000 ( floor 0 y 4 1) mem  mix pow x 2 ; right : u}\" 0", 5, 0, 16,
            "");
        x = new House();
        due("x := 1 ; y := 2 3 ; z := 'ab' ; w := 3 4 ; a := 2 2 rho 1 0 ; b := 3 ; f := + ; g := , ; b := 'hello' ; y := 'ab' 'cd' 'ab' ; z := 2 2 rho 'ab' 1 2 (3 4) ; z := 0 rho enc 1 2 3 ; a := 3 1 2 ; x := 2 3 rho iota 6", 0, -1, 222,
            "");
        due("[.] [{+ . (+)} iota + +] _1 x rank", 1, 0, 2,
            "");
        due("self [(+) 1 [.] (@ + nope)] ((exe)) f {_1 rev #c}", -48, -1, 0,
            "");
    }

    private static void rows5() {
        x = new House();
        due("z := 0 rho enc 1 2 3 ; w := 2 2 2 rho iota 8 ; z := 0 3 rho '' ; x := 2 3 rho iota 6 ; b := 1 0 1 1 ; y := (2 2 rho 1 2 3 4) (enc 1 2) 'a' ; a := 1r2 _3 4 ; z := '' ; x := iota 4 ; f := + ; y := 'ab' 'cd' 'ab' ; x := 3 0 rho 0", 0, -1, 271,
            "");
        due(" ceil y 0", 5, 0, 27,
            "");
        due("20 inter b ((y) := 1 x iota ' ' 'b ' tr y (1) 'cz' (1 10 _0 1 | 4)[;12 z 4 y; iota _1 w 3 z]) 0", 5, 0, 33,
            "");
        due("a[3] := 1r2000000000 3 take  fmt 0 1001 ; f := *", 4, 0, 30,
            "");
        x = new House();
        due("x := 1 ; y := 2 3 ; z := 'ab' ; w := 3 4 ; a := 2 2 rho 1 0 ; b := 3 ; f := + ; g := , ; g := {0 = right : 1 ; right * self right - 1} ; f := {right} ; z := 2 2 rho 'ab' 1 2 (3 4) ; a := 3 1 2 ; w := enc enc 1 2 ; z := 0 rho enc 1 2 3 ; g := f/ ; x := 3 0 rho 0 ; z := ''", 0, -1, 205,
            "");
        due(" enc  depth x 3 1 b", 0, -1, 20,
            "2\n");
        due("y z f w", 0, -1, 25,
            "((1 2))\n");
        x = new House();
        due("x := 1 ; y := 2 3 ; z := 'ab' ; w := 3 4 ; a := 2 2 rho 1 0 ; b := 3 ; f := + ; g := , ; g := {0 = right : 1 ; right * self right - 1} ; y := 'ab' 'cd' 'ab' ; z := 0 3 rho '' ; z := '' ; x := 3 0 rho 0 ; y := 'abc' (1 2) 5 ; a := 1r2 _3 4 ; z := 2 2 rho 'ab' 1 2 (3 4) ; f := + ; w := enc enc 1 2", 0, -1, 226,
            "");
        x.h.set(0, 1);
        due("1 {1 + 'a' ; v[1] := b min  ,[1] 0 w} 0 ; v", 5, 0, 14,
            "");
        due("{right : v := right ;  up  rho (24 '' right) 4r3 3 0} x ; x ; f 1", 4, 0, 6,
            "");
        x = new House();
        due("x := 1 ; y := 2 3 ; z := 'ab' ; w := 3 4 ; a := 2 2 rho 1 0 ; b := 3 ; f := + ; g := , ; y := 'ab' 'cd' 'ab' ; y := (2 2 rho 1 2 3 4) (enc 1 2) 'a' ; a := 1r2 _3 4 ; g := {0 = right : 1 ; right * self right - 1} ; f := + ; x := 2 3 rho iota 6 ; b := 1 0 1 1 ; a := 3 1 2 ; z := '' ; f := {right} ; w := enc enc 1 2", 0, -1, 254,
            "");
        due("{f 1 ; {exe 'f 1' ; 1 :: v := 9} right ; 3 4 5 :: x ; 0 0 without (right 2r6 x w find left w)} 1", 0, -1, 15,
            "1\n");
        due("{'b' ; 5 :: 'got'}/ 0 ; x ; f 1", 0, -1, 18,
            "0\n[2 3]1 2 3 4 5 6\n1\n");
        x = new House();
        due("x := 1 ; y := 2 3 ; z := 'ab' ; w := 3 4 ; a := 2 2 rho 1 0 ; b := 3 ; f := + ; g := , ; w := 2 2 2 rho iota 8 ; g := rev ; x := 3 0 rho 0 ; x := 2 3 rho iota 6 ; w := 5 ; x := iota 4 ; f := {left , right} ; z := 0 3 rho '' ; w := enc enc 1 2 ; a := 3 1 2 ; y := 'abc' (1 2) 5 ; z := ''", 0, -1, 258,
            "");
        due("a[2 2;;0] :=  {1 = right : b x 3 mix 0 '''z' 1 3 floor (1 without 3 15) right (1000)\n , _4 (1)\n( floor 999 _0)}  first 2 <= rank 18@ a ; g := mem@", 1, 0, 94,
            "");
        due("y", 0, -1, 2,
            "(abc) (1 2) 5\n");
        due("w :=  + 3", 0, -1, 8,
            "");
        x = new House();
        due("x := 1 ; y := 2 3 ; z := 'ab' ; w := 3 4 ; a := 2 2 rho 1 0 ; b := 3 ; f := + ; g := , ; w := enc enc 1 2 ; y := 'ab' 'cd' 'ab' ; f := + ; w := 5 ; y := 'abc' (1 2) 5 ; w := 2 2 2 rho iota 8 ; g := rev ; f := {right} ; z := 0 rho enc 1 2 3 ; a := 'q' ; g := f/", 0, -1, 237,
            "");
        due("f := g ; x {3 z g  f  {3 :: _4\nf := max} right} y", 2, 1, 38,
            "");
        due("f := g ; 1 { tally right ' c' left '''b' ^ _2 ; 0 :: v}\" y ; v", 7, 0, 62,
            "");
        x = new House();
        due("x := 1 ; y := 2 3 ; z := 'ab' ; w := 3 4 ; a := 2 2 rho 1 0 ; b := 3 ; f := + ; g := , ; a := 1r2 _3 4 ; y := 'abc' (1 2) 5 ; y := 'ab' 'cd' 'ab' ; b := 1 0 1 1 ; a := 'q' ; a := 3 1 2 ; x := 3 0 rho 0 ; w := 2 2 2 rho iota 8 ; b := 'hello' ; y := (2 2 rho 1 2 3 4) (enc 1 2) 'a' ; g := rev ; z := 2 2 rho 'ab' 1 2 (3 4)", 0, -1, 329,
            "");
        due("f (\\ {right} exe + (rho))", 1, 0, 5,
            "");
        due("2 f", 1, 0, 4,
            "");
        due("rho [(f) 1 +] [(, 2 / pow 2 key) {#c + \"} right rank {/= pow +}]", -43, -1, 0,
            "");
        x = new House();
        due("x := 1 ; y := 2 3 ; z := 'ab' ; w := 3 4 ; a := 2 2 rho 1 0 ; b := 3 ; f := + ; g := , ; f := {right} ; w := 2 2 2 rho iota 8 ; z := '' ; y := (2 2 rho 1 2 3 4) (enc 1 2) 'a' ; x := 3 0 rho 0 ; g := {0 = right : 1 ; right * self right - 1} ; a := 3 1 2 ; g := rev ; g := f/", 0, -1, 208,
            "");
        due("x := 20 rho enc 2 rho enc 1 2", 0, -1, 332,
            "");
        due("split 3 10 rho (y _2000000000 'ac')[0 _1 _3r1 max 4 x]", 4, 0, 298,
            "");
        due("+\"\"\"\"\"\"\"\"\"\"\"\"\"\"\"\"\"\"\"\"\"\"\"\"\"\"\"\"\"\"\"\"\"\"\"\"\"\"\" 1", 0, -1, 201,
            "1\n");
        x = new House();
        due("x := 3 0 rho 0 ; f := {left , right} ; a := 1r2 _3 4 ; g := f/ ; y := 'ab' 'cd' 'ab' ; x := iota 4 ; y := (2 2 rho 1 2 3 4) (enc 1 2) 'a' ; y := 'abc' (1 2) 5 ; a := 3 1 2", 0, -1, 164,
            "");
        due("q := 1 {f := {self x} ; v := {6 :: f := +} ; f := {{1 2 :: 'got' ;  where b x ; exe 'left + 1'} x ; 7 :: v ; {g x ; 7 :: v} 1 ; 6 :: x}}\" x ; v", 2, 0, 28,
            "");
        due("x {{2 ; 0 : u} left} 1", 0, -1, 22,
            "2\n");
        x = new House();
        due("x := 1 ; y := 2 3 ; z := 'ab' ; w := 3 4 ; a := 2 2 rho 1 0 ; b := 3 ; f := + ; g := , ; a := 'q' ; f := {left , right} ; x := 3 0 rho 0 ; z := 0 rho enc 1 2 3 ; x := 2 3 rho iota 6 ; a := 3 1 2 ; g := f/", 0, -1, 165,
            "");
        due("foo {1r2 nope ~ [exe +]}", 2, 0, 3,
            "");
        due("x[1] (x) (g) /= +", 1, 0, 3,
            "");
        due("{+ + /} {+ + rho rank 1 {left + left (f) rank 1}} {(y take) [/= + (+)]} [[/=] rho]", 1, 0, 3,
            "");
    }

    private static void rows6() {
        x = new House();
        due("x := iota 4 ; b := 1 0 1 1 ; w := 2 2 2 rho iota 8 ; z := 0 rho enc 1 2 3 ; g := rev ; z := '' ; f := + ; x := 2 3 rho iota 6 ; a := 3 1 2 ; b := 'hello' ; y := 'abc' (1 2) 5 ; w := 5 ; y := 'ab' 'cd' 'ab'", 0, -1, 228,
            "");
        due("x := 4 w without a", 0, -1, 18,
            "");
        due(" +  {'a a'''[3 3] w ''' '} ( * x 1 x 2000000000 rot w 1[;0;] 3) > 24 (('cbca' + w 1 y 3) a z {3 0 _3 /= 3} w ^ := z (4 4r2 '' b) g z)", 1, 0, 32,
            "");
        due(" rot key 4 ( tr x a a (z ,[x] 0))", 4, 0, 9,
            "");
        x = new House();
        due("x := 1 ; y := 2 3 ; z := 'ab' ; w := 3 4 ; a := 2 2 rho 1 0 ; b := 3 ; f := + ; g := , ; z := 0 3 rho '' ; z := 2 2 rho 'ab' 1 2 (3 4) ; g := {0 = right : 1 ; right * self right - 1} ; a := 'q' ; y := (2 2 rho 1 2 3 4) (enc 1 2) 'a' ; w := enc enc 1 2 ; b := 1 0 1 1 ; z := '' ; y := 'abc' (1 2) 5", 0, -1, 255,
            "");
        x.h.set(0, 0);
        due("{{depth right : b 2 right x inter _4 2 max  fmt a _1r2 ; 4 :: v := 9} right} y", 5, 0, 37,
            "");
        due("f := g ; 1 {v := {f := {0 :: 1 + 'a' ; (v u) :=  ceil _3 ; exe 'f 1' ; f x} ; 0 :: u}}\" 1 ; x ; f 1", 2, 1, 19,
            "");
        x = new House();
        due("x := 1 ; y := 2 3 ; z := 'ab' ; w := 3 4 ; a := 2 2 rho 1 0 ; b := 3 ; f := + ; g := , ; a := 1r2 _3 4 ; z := 2 2 rho 'ab' 1 2 (3 4) ; f := + ; w := 5 ; z := '' ; a := 3 1 2 ; g := f/ ; w := enc enc 1 2 ; a := 'q' ; y := (2 2 rho 1 2 3 4) (enc 1 2) 'a' ; f := {left , right} ; g := rev", 0, -1, 242,
            "");
        due("f := g ; 1 {0 :: v ; x , := (3 iota 4 1) 1 1 6 - 2 y[3] 20 _4 ; 3 :: right ; 1 + 'a'} x ; x ; f 1", 2, 1, 52,
            "");
        due("{3 4 5 :: u ; 0 = right : self 0} y", 2, 0, 48,
            "");
        due("q := x {1 + 'a'} y ; v", 5, 0, 24,
            "");
        x = new House();
        due("x := iota 4 ; b := 'hello' ; g := {0 = right : 1 ; right * self right - 1} ; y := 'ab' 'cd' 'ab' ; w := 2 2 2 rho iota 8 ; w := 5", 0, -1, 101,
            "");
        due("{{{{{right}}}}} 1", 1, 0, 7,
            "");
        due("enc pow 4 1", 0, -1, 20,
            "1\n");
        x = new House();
        due("x := 1 ; y := 2 3 ; z := 'ab' ; w := 3 4 ; a := 2 2 rho 1 0 ; b := 3 ; f := + ; g := , ; f := + ; z := 0 rho enc 1 2 3 ; b := 1 0 1 1 ; a := 'q' ; y := (2 2 rho 1 2 3 4) (enc 1 2) 'a' ; g := rev ; z := 0 3 rho '' ; x := iota 4 ; y := 'ab' 'cd' 'ab' ; a := 1r2 _3 4 ; x := 2 3 rho iota 6", 0, -1, 273,
            "");
        due("pow", 1, 0, 2,
            "");
        due("+ key +", 1, 0, 3,
            "");
        x.h.set(0, 0);
        x = new House();
        due("x := 1 ; y := 2 3 ; z := 'ab' ; w := 3 4 ; a := 2 2 rho 1 0 ; b := 3 ; f := + ; g := , ; y := 'abc' (1 2) 5 ; a := 'q' ; x := 2 3 rho iota 6 ; a := 1r2 _3 4 ; w := 2 2 2 rho iota 8 ; g := rev ; b := 'hello' ; g := f/ ; w := enc enc 1 2 ; g := {0 = right : 1 ; right * self right - 1} ; w := 5", 0, -1, 235,
            "");
        due("w tr 24 w", 6, 0, 11,
            "");
        due("x[3 0;1 3;0 'c' 'c ' rho 4 14] := 4 and _3 _1 a 4", 5, 0, 24,
            "");
        x = new House();
        due("x := 1 ; y := 2 3 ; z := 'ab' ; w := 3 4 ; a := 2 2 rho 1 0 ; b := 3 ; f := + ; g := , ; w := 5 ; z := '' ; w := 2 2 2 rho iota 8 ; b := 'hello' ; z := 0 rho enc 1 2 3 ; x := 3 0 rho 0 ; b := 1 0 1 1 ; a := 3 1 2 ; g := {0 = right : 1 ; right * self right - 1} ; y := 'abc' (1 2) 5", 0, -1, 221,
            "");
        due("{-} [{+ ~ f} (- ~ + rank 1 @) :=] (. pow) [(y exe) {\\ \" 'ab'} 2]", 1, 0, 6,
            "");
        due("~ 1 ([1] \" +) /", 1, 0, 5,
            "");
        due("#c := [_1 + [1]] _1 +", 0, -1, 0,
            "");
        x = new House();
        due("a := 3 1 2 ; w := 2 2 2 rho iota 8 ; g := rev ; b := 1 0 1 1 ; x := 3 0 rho 0 ; x := iota 4 ; w := enc enc 1 2 ; g := {0 = right : 1 ; right * self right - 1} ; f := {left , right} ; g := f/ ; w := 5 ; f := {right} ; y := (2 2 rho 1 2 3 4) (enc 1 2) 'a' ; f := +", 0, -1, 210,
            "");
        due(" + y", 5, 0, 14,
            "");
        due("(b) := 0 _3 where 1 1 ; exe '6r4'", 1, 0, 11,
            "");
        x = new House();
        due("f := {right} ; g := f/ ; w := enc enc 1 2 ; b := 'hello' ; a := 1r2 _3 4 ; z := '' ; z := 2 2 rho 'ab' 1 2 (3 4) ; z := 0 rho enc 1 2 3 ; y := 'abc' (1 2) 5 ; y := (2 2 rho 1 2 3 4) (enc 1 2) 'a' ; y := 'ab' 'cd' 'ab'", 0, -1, 247,
            "");
        due("3 ( floor _3 1 z) z >= ( where (1 enco 0) 0) 0 w 3 ; y 1 ' ' '''ac' not 2[;2 2;0 3] 'bc'", 4, 0, 83,
            "");
        due("4 6r3 'c' 'z'''' ' enco  rev x[3] 0 (?) w ( ,[1,1] 2 a) 1 ; x :=  ,[1]  + _3 z z ; ( a) := _2000000000", 1, 0, 19,
            "");
        x = new House();
        due("x := 1 ; y := 2 3 ; z := 'ab' ; w := 3 4 ; a := 2 2 rho 1 0 ; b := 3 ; f := + ; g := , ; g := rev ; x := 2 3 rho iota 6 ; a := 1r2 _3 4 ; g := {0 = right : 1 ; right * self right - 1} ; w := 5 ; f := {right} ; z := 2 2 rho 'ab' 1 2 (3 4) ; z := 0 3 rho '' ; w := enc enc 1 2 ; f := +", 0, -1, 211,
            "");
        due("(0 ^ x) (_2000000000 >= z) {f := +}  ceil w ; f := max ;  floor x b", 2, 0, 61,
            "");
        due("exe '_8r4[;1 2] (4) z > y' ; (0 6r4 b = 46341 _2 x _4 rot 1 without '''aa') > _3 z ; b :=  - y rot[1r2] ( rev 3 2)", 3, 0, 39,
            "");
        due("z := x - a 1r2000000000 (w tr := 23 a = 0) ' '", 5, 0, 35,
            "");
    }

    private static void rows7() {
        x = new House();
        due("a := 1r2 _3 4 ; a := 3 1 2 ; g := rev ; f := {right} ; z := 0 rho enc 1 2 3 ; w := 2 2 2 rho iota 8 ; f := + ; z := 0 3 rho '' ; g := {0 = right : 1 ; right * self right - 1}", 0, -1, 127,
            "");
        due("{'0 = right : 0 ; exe 'self right - 1'} 3", -47, -1, 0,
            "");
        due("((((((((((((((((((((((((((((((((((((((((((1", -51, -1, 0,
            "");
        due("((((((((((((((((((((((((((((((((((((((((1", -49, -1, 0,
            "");
        x = new House();
        due("x := 1 ; y := 2 3 ; z := 'ab' ; w := 3 4 ; a := 2 2 rho 1 0 ; b := 3 ; f := + ; g := , ; f := {left , right} ; b := 1 0 1 1 ; w := 2 2 2 rho iota 8 ; x := iota 4 ; w := enc enc 1 2 ; y := 'abc' (1 2) 5 ; b := 'hello' ; z := 2 2 rho 'ab' 1 2 (3 4) ; a := 'q' ; z := 0 rho enc 1 2 3 ; g := f/ ; f := + ; a := 1r2 _3 4", 0, -1, 304,
            "");
        x.h.set(0, 0);
        due("(b) := w 'b'''", 4, 0, 12,
            "");
        due("z := ( same 30 _2) ; (x pick z) := x =  mix 4 gcd b ( iota 0) w ( down 0)", 3, 1, 21,
            "");
        x = new House();
        due("x := 1 ; y := 2 3 ; z := 'ab' ; w := 3 4 ; a := 2 2 rho 1 0 ; b := 3 ; f := + ; g := , ; f := {left , right} ; z := 0 3 rho '' ; a := 3 1 2 ; x := 3 0 rho 0 ; g := {0 = right : 1 ; right * self right - 1} ; z := 2 2 rho 'ab' 1 2 (3 4) ; z := 0 rho enc 1 2 3 ; b := 'hello' ; x := 2 3 rho iota 6", 0, -1, 228,
            "");
        due("{1 : f := + ; y :=  rho _3 _3 <= (0)} y", 2, 0, 10,
            "");
        due("f := g ; 1 {g x ; {1 1 : self 0 ; 3 :: x ; 2 :: 1 + 'a'} v ; 1 :: f := +} y ; v", 4, 1, 41,
            "");
        due("q := {u := x ; {v := {1 + 'a' ; exe 'v := 1 ; f := -'}} right ; tally right : v := right ; {0 :: 'got' ; v :=  down 'zaz''' ; u := x 4 _4 | (right w 1 6 without b 100 a 2000000000)[1 0;a :=  or _3] ; 1 1 : 0 '''ba' - 2000000000 inter 'a'} left}/ x ; v", 2, 0, 34,
            "");
        x = new House();
        due("z := 0 3 rho '' ; y := 'ab' 'cd' 'ab' ; x := iota 4 ; w := 5 ; w := enc enc 1 2 ; b := 'hello' ; g := rev ; z := 0 rho enc 1 2 3 ; f := {right} ; x := 3 0 rho 0 ; y := (2 2 rho 1 2 3 4) (enc 1 2) 'a' ; f := +", 0, -1, 200,
            "");
        due("pow 2 (rho ((f) pow rank 1)) + (x)", 1, 0, 9,
            "");
        due("= {+ right + [+]} rho mix", 1, 0, 3,
            "");
        due("[+ [1]] + [+] @ =", 1, 0, 3,
            "");
        x = new House();
        due("x := 1 ; y := 2 3 ; z := 'ab' ; w := 3 4 ; a := 2 2 rho 1 0 ; b := 3 ; f := + ; g := , ; a := 3 1 2 ; g := f/ ; z := 2 2 rho 'ab' 1 2 (3 4) ; y := 'abc' (1 2) 5 ; x := 2 3 rho iota 6 ; b := 1 0 1 1 ; a := 1r2 _3 4 ; w := 2 2 2 rho iota 8 ; g := {0 = right : 1 ; right * self right - 1} ; x := 3 0 rho 0 ; z := 0 rho enc 1 2 3", 0, -1, 310,
            "");
        due("x := 0 iota y _3 y 123456789", 3, 0, 50,
            "");
        due("(0 take b) := (y :=  * 'z'''' ') z deco 2 b z", 5, 0, 26,
            "");
        x.h.set(0, 1);
        x = new House();
        due("z := 0 3 rho '' ; f := {right} ; a := 'q' ; f := + ; x := iota 4 ; y := (2 2 rho 1 2 3 4) (enc 1 2) 'a' ; b := 1 0 1 1 ; g := f/ ; f := {left , right} ; a := 1r2 _3 4", 0, -1, 128,
            "");
        due("{= /=} {key .} [+ @ {1r2 right + +} (left + 1 right) (f)] ('' (:= -))", 1, 0, 5,
            "");
        due("[+ (x) [1 exe exe _1] (x y)] ,", 5, 0, 26,
            "");
        x = new House();
        due("x := 1 ; y := 2 3 ; z := 'ab' ; w := 3 4 ; a := 2 2 rho 1 0 ; b := 3 ; f := + ; g := , ; a := 1r2 _3 4 ; w := 5 ; z := 0 3 rho '' ; g := f/ ; z := '' ; w := 2 2 2 rho iota 8 ; b := 1 0 1 1 ; w := enc enc 1 2 ; f := {left , right} ; y := 'abc' (1 2) 5 ; g := rev ; x := 2 3 rho iota 6", 0, -1, 251,
            "");
        due("f := g ; 1 {3 :: v := 9 ; 7 :: (2) ; 6 :: v := 9} 2 3", 2, 1, 21,
            "");
        due("x {f := {g := {(u x) := v :=  !  same (18) z _2 ( | 4 2) ; 2 :: } ; 1 1 : self 0 ; f right}} x ; v", 2, 0, 20,
            "");
        x = new House();
        due("b := 'hello' ; f := {left , right} ; y := (2 2 rho 1 2 3 4) (enc 1 2) 'a' ; x := 3 0 rho 0 ; f := {right} ; x := 2 3 rho iota 6 ; w := enc enc 1 2 ; z := 0 3 rho ''", 0, -1, 161,
            "");
        due("~", 1, 0, 2,
            "");
        due("+ , rank (iota \" (self) +) +", 2, 0, 6,
            "");
        due("self /=", 2, 0, 3,
            "");
        x = new House();
        due("x := 1 ; y := 2 3 ; z := 'ab' ; w := 3 4 ; a := 2 2 rho 1 0 ; b := 3 ; f := + ; g := , ; z := '' ; z := 2 2 rho 'ab' 1 2 (3 4) ; f := {right} ; w := 5 ; z := 0 rho enc 1 2 3 ; f := + ; y := 'abc' (1 2) 5", 0, -1, 180,
            "");
        x.h.set(0, 1);
        due("f/[0] 2 6 7 rho iota 20", 6, 0, 229,
            "");
        due("(iota 40) , . + iota 40", 0, -1, 2053,
            "(2 4 6 8 10 12 14 16 18 20 22 24 26 28 30 32 34 36 38 40 42 44 46 48 50 52 54 56 58 60 62 64 66 68 70 72 74 76 78 80)\n");
        x = new House();
        due("x := 1 ; y := 2 3 ; z := 'ab' ; w := 3 4 ; a := 2 2 rho 1 0 ; b := 3 ; f := + ; g := , ; b := 1 0 1 1 ; g := rev ; y := (2 2 rho 1 2 3 4) (enc 1 2) 'a' ; z := 0 rho enc 1 2 3 ; f := + ; a := 3 1 2 ; x := 2 3 rho iota 6 ; g := f/", 0, -1, 226,
            "");
        due("q := x {0 = right : v := right ; 1 0 union y 0 >= '''''z' right ; 1 + 'a' ; 5 :: 'got'} y ; x ; f 1", 4, 0, 48,
            "");
        due("f := g ; {1 + 'a' ; 0 :: f := +}/ 1", 0, -1, 13,
            "1\n");
    }

    private static void rows8() {
        x = new House();
        due("x := 1 ; y := 2 3 ; z := 'ab' ; w := 3 4 ; a := 2 2 rho 1 0 ; b := 3 ; f := + ; g := , ; b := 1 0 1 1 ; f := {right} ; z := 0 3 rho '' ; x := 3 0 rho 0 ; z := 0 rho enc 1 2 3 ; b := 'hello' ; x := 2 3 rho iota 6 ; a := 1r2 _3 4 ; w := enc enc 1 2", 0, -1, 215,
            "");
        due(" !~ 3", 0, -1, 11,
            "1\n");
        due("4 x", 0, -1, 11,
            "4 ([2 3]1 2 3 4 5 6)\n");
        due("g := <= ; 'z bz' 3[1 3] {1 :: b := 1 * 26;3 :: right drop _1} b ; f := split", 3, 1, 15,
            "");
        x = new House();
        due("x := 1 ; y := 2 3 ; z := 'ab' ; w := 3 4 ; a := 2 2 rho 1 0 ; b := 3 ; f := + ; g := , ; f := {right} ; a := 3 1 2 ; g := rev ; b := 'hello' ; a := 'q' ; y := (2 2 rho 1 2 3 4) (enc 1 2) 'a' ; x := 2 3 rho iota 6 ; y := 'ab' 'cd' 'ab'", 0, -1, 209,
            "");
        due("[take \" nope = rank] mix [(x)] {take + [1] x[1] .}", 1, 0, 4,
            "");
        due("2 + [{+ . +} x[1] take {right}]", 1, 0, 3,
            "");
        due("rank mix self g", 2, 0, 4,
            "");
        x = new House();
        due("z := 0 rho enc 1 2 3 ; y := 'abc' (1 2) 5 ; w := enc enc 1 2 ; y := 'ab' 'cd' 'ab' ; a := 3 1 2 ; f := {left , right} ; z := 2 2 rho 'ab' 1 2 (3 4) ; g := f/ ; g := {0 = right : 1 ; right * self right - 1} ; x := 3 0 rho 0", 0, -1, 191,
            "");
        due("{0 = right : 0 ; self right - 1} 39", 0, -1, 795,
            "0\n");
        due("y ! 12", 5, 0, 15,
            "");
        due("+\"\"\"\"\"\"\"\"\"\"\"\"\"\"\"\"\"\"\"\"\"\"\"\"\"\"\"\"\"\"\"\"\"\"\"\"\"\"\" 1", 0, -1, 201,
            "1\n");
        x = new House();
        due("x := 1 ; y := 2 3 ; z := 'ab' ; w := 3 4 ; a := 2 2 rho 1 0 ; b := 3 ; f := + ; g := , ; y := 'abc' (1 2) 5 ; z := 0 rho enc 1 2 3 ; w := 2 2 2 rho iota 8 ; f := {right} ; y := 'ab' 'cd' 'ab' ; x := iota 4 ; f := + ; a := 1r2 _3 4 ; f := {left , right}", 0, -1, 223,
            "");
        due("z expand := 2 rot[(z a b) := y '' 0 y > w a _3 1] 0", 3, 0, 87,
            "");
        due("('z' _4r6 1 or 30) lcm  same 4 1 ( first ( first 4 0 8r1 z)[a z 'cz' rep 7 3 1; ,[5r2] 4]) y", 1, 0, 6,
            "");
        x = new House();
        due("x := 1 ; y := 2 3 ; z := 'ab' ; w := 3 4 ; a := 2 2 rho 1 0 ; b := 3 ; f := + ; g := , ; f := {right} ; z := '' ; g := rev ; g := {0 = right : 1 ; right * self right - 1} ; y := 'abc' (1 2) 5 ; z := 0 rho enc 1 2 3 ; f := + ; z := 2 2 rho 'ab' 1 2 (3 4) ; a := 'q'", 0, -1, 186,
            "");
        due("+ left @ #c iota", 2, 0, 3,
            "");
        x.h.set(0, 0);
        due("['ab' \\ + pow +] nope [foo + [rank 1] \\] (x y) (f)", 1, 0, 17,
            "");
        x = new House();
        due("g := {0 = right : 1 ; right * self right - 1} ; f := {left , right} ; y := (2 2 rho 1 2 3 4) (enc 1 2) 'a' ; x := iota 4 ; g := rev ; z := 2 2 rho 'ab' 1 2 (3 4) ; z := 0 rho enc 1 2 3 ; x := 3 0 rho 0 ; z := 0 3 rho '' ; g := f/ ; a := 1r2 _3 4", 0, -1, 205,
            "");
        due("x { rho y right '''' deco 6r5 ('' _0 same 123456789 1)[] 1 0r5} 2 3 ; x ; f 1", 4, 0, 84,
            "");
        due("1 {g := {v := {6 :: u ; x : f := + ; g right}} ; 1 + 'a' ; 1 + 'a' ; 6 :: u}/ 0 ; x ; f 1", 3, 0, 8,
            "");
        due("f := g ; {right :  !\" '  '} 1 ; v", 5, 1, 23,
            "");
        x = new House();
        due("x := 1 ; y := 2 3 ; z := 'ab' ; w := 3 4 ; a := 2 2 rho 1 0 ; b := 3 ; f := + ; g := , ; x := 2 3 rho iota 6 ; z := 0 rho enc 1 2 3 ; a := 'q' ; a := 3 1 2 ; f := + ; g := rev ; y := 'ab' 'cd' 'ab' ; z := 2 2 rho 'ab' 1 2 (3 4)", 0, -1, 224,
            "");
        due("w := (z = y 2 'b' 2) f z 2 z ' c'", 3, 0, 71,
            "");
        due("(a) :=  {1r2000000000 match y w 0 y} (x a min z b) {0 = tally right : 1 enco 4 left} 3", 4, 0, 52,
            "");
        x = new House();
        due("x := 1 ; y := 2 3 ; z := 'ab' ; w := 3 4 ; a := 2 2 rho 1 0 ; b := 3 ; f := + ; g := , ; z := '' ; y := 'ab' 'cd' 'ab' ; b := 1 0 1 1 ; w := 5 ; a := 'q' ; f := {left , right} ; y := (2 2 rho 1 2 3 4) (enc 1 2) 'a' ; z := 0 3 rho '' ; x := iota 4 ; y := 'abc' (1 2) 5 ; z := 2 2 rho 'ab' 1 2 (3 4) ; f := {right} ; z := 0 rho enc 1 2 3 ; g := f/ ; w := enc enc 1 2 ; g := rev ; x := 3 0 rho 0", 0, -1, 352,
            "");
        x.h.set(0, 1);
        due("(b x z) := 3 part ''", 4, 0, 7,
            "");
        due("w := w min ( ! '''' ' ') 4[] a 25", 3, 0, 6,
            "");
        x = new House();
        due("x := 1 ; y := 2 3 ; z := 'ab' ; w := 3 4 ; a := 2 2 rho 1 0 ; b := 3 ; f := + ; g := , ; x := 3 0 rho 0 ; z := '' ; f := + ; f := {right} ; z := 0 rho enc 1 2 3 ; w := 2 2 2 rho iota 8", 0, -1, 162,
            "");
        due("( - 0 y) {(- a) := 2 _1 6 2} 'bccc' ('' 0) ^@ _2000000000 (6r1 26 * x[;3 0] _1)", 6, 0, 11,
            "");
        due("z := (0 <  | _2000000000 'c''' y x take a) <  uniq  fmt _4 ; (z y) := 0 part ('a' 1 26 3) ; '' <=  { rev z;a := 1r2000000000 uniq 'bcb ' 2 1} 2 3", 4, 0, 43,
            "");
        x = new House();
        due("y := (2 2 rho 1 2 3 4) (enc 1 2) 'a' ; x := iota 4 ; f := {left , right} ; f := + ; b := 'hello' ; g := f/ ; z := 0 rho enc 1 2 3 ; z := 0 3 rho '' ; y := 'abc' (1 2) 5 ; w := 5 ; g := rev ; x := 3 0 rho 0", 0, -1, 181,
            "");
        due("x := 46341 z * 4", 0, -1, 16,
            "");
        due("_2 w _4[3] match ''", 3, 0, 8,
            "");
    }

    private static void rows9() {
        x = new House();
        due("w := 5 ; y := (2 2 rho 1 2 3 4) (enc 1 2) 'a' ; x := 2 3 rho iota 6 ; f := {left , right} ; w := 2 2 2 rho iota 8 ; a := 3 1 2 ; f := {right} ; x := iota 4 ; a := 'q' ; g := rev ; g := {0 = right : 1 ; right * self right - 1} ; a := 1r2 _3 4 ; x := 3 0 rho 0 ; z := 0 rho enc 1 2 3", 0, -1, 248,
            "");
        due("f := g ; x {{1 :: u ; v := {tally right : u ; 1 + 'a'}} 1 ; (u x) := v := right 1 + '''aca' > 23 right _4 max rank (enc 1) 4 2 z[1 3] ( enl (_8r6 2 1 <= 3 6r4) a)} y", 2, 1, 29,
            "");
        due("f := g ; {7 :: u ; g := {1 + 'a'} ; v := {1 + 'a' ; right 4 b rot y <= 3 4 (b 2 4 1 same 28) _3 ; (1 take x) := x := 0 'ba' match 'zb' (15 split 1) ; 1 + 'a'}}/ 0 ; x ; f 1", 0, -1, 56,
            "0\n[3 0]\n1\n");
        x = new House();
        due("z := '' ; a := 3 1 2 ; z := 0 rho enc 1 2 3 ; g := f/ ; f := {left , right} ; x := 3 0 rho 0 ; g := {0 = right : 1 ; right * self right - 1} ; w := enc enc 1 2 ; w := 5 ; b := 1 0 1 1 ; a := 1r2 _3 4 ; x := 2 3 rho iota 6 ; z := 2 2 rho 'ab' 1 2 (3 4)", 2, 3, 50,
            "");
        due("w rot := 2[3;2 2;y _4 mem 1 'b' b] a 15 4 deco b :=  same b ((z))", 2, 0, 5,
            "");
        due("0 _1 b (a rot[1r2] 'b')", 5, 0, 11,
            "");
        x = new House();
        due("x := 1 ; y := 2 3 ; z := 'ab' ; w := 3 4 ; a := 2 2 rho 1 0 ; b := 3 ; f := + ; g := , ; z := 0 3 rho '' ; x := 2 3 rho iota 6 ; y := (2 2 rho 1 2 3 4) (enc 1 2) 'a' ; b := 1 0 1 1 ; f := {left , right} ; z := 0 rho enc 1 2 3 ; f := {right} ; z := '' ; b := 'hello' ; g := {0 = right : 1 ; right * self right - 1}", 0, -1, 235,
            "");
        due(" (ceil) w '''cz' min ( % 'ba') a ; g := without ; 4 enco rank (0 1) 0[ - 'ba' 4r3]", 5, 0, 8,
            "");
        due("g := f", 0, -1, 4,
            "");
        x = new House();
        due("x := 1 ; y := 2 3 ; z := 'ab' ; w := 3 4 ; a := 2 2 rho 1 0 ; b := 3 ; f := + ; g := , ; x := 3 0 rho 0 ; x := 2 3 rho iota 6 ; a := 3 1 2 ; f := {right} ; y := (2 2 rho 1 2 3 4) (enc 1 2) 'a' ; f := {left , right} ; g := rev ; w := enc enc 1 2 ; z := 2 2 rho 'ab' 1 2 (3 4) ; g := f/ ; w := 5 ; f := + ; z := 0 3 rho '' ; b := 1 0 1 1 ; y := 'ab' 'cd' 'ab'", 0, -1, 325,
            "");
        due("6r2 drop ( tally a match z x w (z enco 3 2)) ( up b) w ; (z _3) (b _1 inter 3)", 3, 0, 25,
            "");
        due("y[;2] := ( * 3)", 3, 0, 9,
            "");
        due("( b) :=  {(w y a) := 2 24 z drop b;right = 0 :  % _1 _4 right;0 = tally right : right 3 2} (x 3 1 deco 4 z) min\" 2 1 1 0", 4, 0, 41,
            "");
        x = new House();
        due("x := 1 ; y := 2 3 ; z := 'ab' ; w := 3 4 ; a := 2 2 rho 1 0 ; b := 3 ; f := + ; g := , ; f := {right} ; x := iota 4 ; y := 'ab' 'cd' 'ab' ; w := 2 2 2 rho iota 8 ; w := 5 ; w := enc enc 1 2 ; f := {left , right} ; z := 0 rho enc 1 2 3 ; g := {0 = right : 1 ; right * self right - 1} ; y := 'abc' (1 2) 5 ; g := rev ; a := 1r2 _3 4", 0, -1, 256,
            "");
        due("q := x {6 :: 4 right !  * ( floor 19 _2 x) x left ; 3 :: 1 + 'a'} 1", 2, 0, 15,
            "");
        due("1 {6 ::  ; {{7 :: u} x ; a lcm := x | 0 inter '' 3} 1 ; 6 ::  ; (u x) := v :=  iota  down (b[ tally z] := _2r3 gcd 3)} 2 3 ; v", 2, 0, 28,
            "");
        due("q := x {v := {b[1 2] ; exe '1 +'} ; 0 : right ; {exe 'v ; u' ; (1 take x) := 2 ; exe 'left + 1'} x} 2 3 ; v", 1, 0, 40,
            "");
        x = new House();
        due("x := 1 ; y := 2 3 ; z := 'ab' ; w := 3 4 ; a := 2 2 rho 1 0 ; b := 3 ; f := + ; g := , ; y := 'ab' 'cd' 'ab' ; x := 3 0 rho 0 ; z := 2 2 rho 'ab' 1 2 (3 4) ; z := '' ; z := 0 3 rho '' ; w := 5", 0, -1, 162,
            "");
        due("/= {+ \\ ''} (+ nope (x y) #c)", -22, -1, 0,
            "");
        x.h.set(0, 1);
        due("{'' (. , +) [foo #c rank] + [= +]} + {[1]} +", -22, -1, 0,
            "");
        x = new House();
        due("x := 1 ; y := 2 3 ; z := 'ab' ; w := 3 4 ; a := 2 2 rho 1 0 ; b := 3 ; f := + ; g := , ; x := iota 4 ; x := 3 0 rho 0 ; w := enc enc 1 2 ; f := {left , right} ; a := 3 1 2 ; y := 'abc' (1 2) 5 ; x := 2 3 rho iota 6 ; z := 0 3 rho '' ; y := 'ab' 'cd' 'ab'", 0, -1, 222,
            "");
        due("x := 3 3 (b z 0r5 b <= 5 y a 'bc' lcm  rev[2] ( first b b) ('' expand[2] _2r3))", 6, 0, 9,
            "");
        due("_1 4 y <= x ( % _2 (_2 4 4)) '' 20", 4, 0, 89,
            "");
        x = new House();
        due("x := 1 ; y := 2 3 ; z := 'ab' ; w := 3 4 ; a := 2 2 rho 1 0 ; b := 3 ; f := + ; g := , ; g := rev ; z := '' ; f := {left , right} ; b := 1 0 1 1 ; a := 3 1 2 ; y := (2 2 rho 1 2 3 4) (enc 1 2) 'a' ; x := 2 3 rho iota 6 ; y := 'ab' 'cd' 'ab' ; f := {right} ; z := 2 2 rho 'ab' 1 2 (3 4) ; w := enc enc 1 2 ; b := 'hello' ; a := 'q'", 0, -1, 305,
            "");
        due("(z x z) := 4 w _4 ; x := y drop  drop\\\" ( tr  ?  {x ' ' 1 ''} ( where 8 lcm  - z a) z (1) ( same 3 3 >= (2 a 25 4) 1)) 1", 5, 1, 53,
            "");
        due("z[;0 3] := 13 {z 2\n5r3\n3 deco _2 46341 w ''}@ (b) := (z := x min (3 without 'c''a') _1 (a)) match _3", 5, 0, 33,
            "");
        due("w := a _1 4 ; y['' w mem 1 w 0;11 match z union w deco := b b 0 6r4 take a 0] := z ; w[1] := w 'c'", 4, 1, 55,
            "");
        x = new House();
        due("x := 1 ; y := 2 3 ; z := 'ab' ; w := 3 4 ; a := 2 2 rho 1 0 ; b := 3 ; f := + ; g := , ; z := '' ; a := 3 1 2 ; f := + ; w := 2 2 2 rho iota 8 ; z := 0 3 rho '' ; y := 'abc' (1 2) 5 ; y := (2 2 rho 1 2 3 4) (enc 1 2) 'a' ; z := 0 rho enc 1 2 3 ; b := 1 0 1 1", 0, -1, 268,
            "");
        due("(_2 take w) := w find b[z;2] ; (z) := (y '''a') z 2 + 1 ; b := b 1 tr 2[2] (22 b[ , 0 4;1;1 2] 'b')", 3, 0, 14,
            "");
        due("z := a same ( mix  +  split z z _2 26) z '' b", 0, -1, 150,
            "");
        x = new House();
        due("x := 1 ; y := 2 3 ; z := 'ab' ; w := 3 4 ; a := 2 2 rho 1 0 ; b := 3 ; f := + ; g := , ; y := 'abc' (1 2) 5 ; g := {0 = right : 1 ; right * self right - 1} ; g := rev ; a := 'q' ; y := (2 2 rho 1 2 3 4) (enc 1 2) 'a' ; f := {right} ; w := enc enc 1 2 ; w := 5", 0, -1, 187,
            "");
        due("f := g ; {3 :: v}/ 1 ; v", 2, 2, 13,
            "1\n");
        due("q := 1 {f := {f := b right 0 * (z) 1 ; a _2 ; v[1] := a := 3 3 and  | z 'b' ; 3 4 5 :: 1 + 'a'}} 2 3 ; x ; f 1", 2, 0, 15,
            "");
    }

    private static void rows10() {
        x = new House();
        due("x := 1 ; y := 2 3 ; z := 'ab' ; w := 3 4 ; a := 2 2 rho 1 0 ; b := 3 ; f := + ; g := , ; a := 1r2 _3 4 ; w := 5 ; g := rev ; f := + ; g := f/ ; y := 'ab' 'cd' 'ab' ; f := {right} ; w := enc enc 1 2 ; b := 'hello' ; g := {0 = right : 1 ; right * self right - 1} ; a := 'q' ; z := 0 rho enc 1 2 3", 0, -1, 185,
            "");
        due("where 6 4 rho 0 1", 0, -1, 101,
            "(1 2) (1 4) (2 2) (2 4) (3 2) (3 4) (4 2) (4 4) (5 2) (5 4) (6 2) (6 4)\n");
        x.h.set(0, 0);
        due("'a '[0] | 2000000000r1999999999", 5, 0, 13,
            "");
        x = new House();
        due("x := 1 ; y := 2 3 ; z := 'ab' ; w := 3 4 ; a := 2 2 rho 1 0 ; b := 3 ; f := + ; g := , ; b := 'hello' ; y := 'ab' 'cd' 'ab' ; y := 'abc' (1 2) 5 ; z := '' ; y := (2 2 rho 1 2 3 4) (enc 1 2) 'a' ; a := 1r2 _3 4 ; g := rev ; z := 0 3 rho '' ; f := {right} ; b := 1 0 1 1 ; w := enc enc 1 2 ; z := 0 rho enc 1 2 3 ; x := 2 3 rho iota 6", 0, -1, 317,
            "");
        due("f := g ; 1 {1 + 'a' ; 1 + 'a'}\" y ; x ; f 1", 5, 1, 37,
            "");
        due("q := {v := {3 :: x ; u := 2 2 _3 (right * right) deco 9 (4 _0) 16 'bzz' self 3 ; exe 'right'} ; right : u}\" x", 2, 0, 26,
            "");
        x = new House();
        due("x := 1 ; y := 2 3 ; z := 'ab' ; w := 3 4 ; a := 2 2 rho 1 0 ; b := 3 ; f := + ; g := , ; g := rev ; y := 'abc' (1 2) 5 ; x := iota 4 ; f := {left , right} ; a := 'q' ; f := {right} ; a := 3 1 2 ; b := 1 0 1 1 ; f := +", 0, -1, 139,
            "");
        x.h.set(0, 1);
        due("[1]", 1, 0, 2,
            "");
        due("take key mix 1r2", 5, 0, 14,
            "");
        x = new House();
        due("w := 5 ; y := (2 2 rho 1 2 3 4) (enc 1 2) 'a' ; w := enc enc 1 2 ; a := 'q' ; b := 'hello' ; x := 3 0 rho 0 ; y := 'abc' (1 2) 5 ; b := 1 0 1 1 ; a := 1r2 _3 4 ; x := iota 4 ; g := rev ; f := {left , right}", 0, -1, 184,
            "");
        due("3 tr z {w 9r6 right enco 16 0 '';1 :: 1 6r4;} b := ( same 2) - z", 2, 0, 2,
            "");
        due("3 ;  floor  first (x 0 and (2)) 4", 5, 1, 24,
            "3\n");
        due("b w union 'bz' a b", 0, -1, 69,
            "(1 0 1 1) (((1 2))) (bz) (1r2 _3 4)\n");
        x = new House();
        due("x := 1 ; y := 2 3 ; z := 'ab' ; w := 3 4 ; a := 2 2 rho 1 0 ; b := 3 ; f := + ; g := , ; x := iota 4 ; x := 3 0 rho 0 ; a := 'q' ; z := 0 rho enc 1 2 3 ; y := 'abc' (1 2) 5 ; y := (2 2 rho 1 2 3 4) (enc 1 2) 'a' ; z := 2 2 rho 'ab' 1 2 (3 4) ; g := rev", 0, -1, 260,
            "");
        due("{v := x 0 union 65536 3 0 3 without 1 ; 4} x ; x ; f 1", 0, -1, 60,
            "4\n[3 0]\n1\n");
        due("{7 ::  ; exe 'right'} 0 ; v", 2, 1, 22,
            "0\n");
        due("q := x {{3 4 5 :: u ; v := {v := a := 1 4 17 z * 1 >= b b (y y > 'b ') ; 7 :: } ; 3 :: right ; exe 'self 0'} v ; v :=  % y := 0 25 min w union z x ' '}/ 1 ; v", 3, 0, 8,
            "");
        x = new House();
        due("x := 1 ; y := 2 3 ; z := 'ab' ; w := 3 4 ; a := 2 2 rho 1 0 ; b := 3 ; f := + ; g := , ; g := {0 = right : 1 ; right * self right - 1} ; y := 'ab' 'cd' 'ab' ; w := enc enc 1 2 ; g := rev ; x := iota 4 ; x := 3 0 rho 0 ; z := 0 rho enc 1 2 3 ; g := f/ ; b := 'hello' ; z := 2 2 rho 'ab' 1 2 (3 4) ; z := '' ; x := 2 3 rho iota 6 ; w := 5", 0, -1, 281,
            "");
        due("{pow +} take [. 'ab' =] y", 1, 0, 4,
            "");
        due("+ pow", 1, 0, 2,
            "");
        x.h.set(0, 0);
        x = new House();
        due("x := 1 ; y := 2 3 ; z := 'ab' ; w := 3 4 ; a := 2 2 rho 1 0 ; b := 3 ; f := + ; g := , ; f := + ; b := 'hello' ; g := rev ; z := 2 2 rho 'ab' 1 2 (3 4) ; w := enc enc 1 2 ; f := {left , right} ; g := f/ ; x := iota 4", 0, -1, 171,
            "");
        due("(1 rho x)[1][1][1][1][1][1][1][1][1][1][1][1][1][1][1][1][1][1][1][1][1][1][1][1][1][1][1][1][1][1][1][1][1][1][1][1][1][1]", 3, 0, 57,
            "");
        due("x := 999 rho enc 6 rho enc 1 2", 7, 0, 100,
            "");
        x = new House();
        due("x := 1 ; y := 2 3 ; z := 'ab' ; w := 3 4 ; a := 2 2 rho 1 0 ; b := 3 ; f := + ; g := , ; b := 1 0 1 1 ; z := '' ; x := 2 3 rho iota 6 ; f := + ; a := 1r2 _3 4 ; a := 'q' ; g := rev ; b := 'hello' ; x := 3 0 rho 0 ; w := enc enc 1 2 ; y := 'abc' (1 2) 5", 0, -1, 206,
            "");
        due(" ? 1 _2r2", 5, 0, 9,
            "");
        due("z := _4 1 pick 8r6 same b 100", 6, 0, 44,
            "");
        due("17 tr 'bc'", 6, 0, 8,
            "");
        x = new House();
        due("x := 1 ; y := 2 3 ; z := 'ab' ; w := 3 4 ; a := 2 2 rho 1 0 ; b := 3 ; f := + ; g := , ; x := 3 0 rho 0 ; y := 'ab' 'cd' 'ab' ; z := 2 2 rho 'ab' 1 2 (3 4) ; y := 'abc' (1 2) 5 ; y := (2 2 rho 1 2 3 4) (enc 1 2) 'a' ; x := iota 4 ; z := 0 3 rho '' ; b := 1 0 1 1 ; a := 1r2 _3 4 ; z := 0 rho enc 1 2 3 ; g := {0 = right : 1 ; right * self right - 1} ; f := {right} ; g := f/", 0, -1, 323,
            "");
        due("f := g ; 1 {(1 take x) := 123456789[1] (w right) ('' 13 7 left - 'aaa') (2 w 7r2 24) part z := 1 3 '' b self 1 'b' right ( * 0 = 0 _3 right 0)} 0 ; v", 7, 1, 1108,
            "");
        due("{1 :: v := 9 ; x[1] := y z 3[3;3] (_5r6 2 iota 4 x w - (1 500 z 1) right) ; 1 + 'a' ; {6 :: 'got'} right}/ 0 ; x ; f 1", 7, 2, 72,
            "0\n1 2 3 4\n");
        due("q := {1 + 'a' ; 0 :: left}/ 1 ; v", 2, 1, 11,
            "");
        x = new House();
        due("x := 3 0 rho 0 ; y := (2 2 rho 1 2 3 4) (enc 1 2) 'a' ; z := 0 3 rho '' ; z := '' ; z := 2 2 rho 'ab' 1 2 (3 4) ; f := + ; y := 'abc' (1 2) 5 ; b := 'hello' ; a := 3 1 2", 0, -1, 183,
            "");
        due("2000000000 0", 0, -1, 5,
            "2000000000 0\n");
        x.h.set(0, 0);
        due("w[ - _1r4;_1;2 _3r1]", 2, 0, 12,
            "");
    }

    private static void rows11() {
        x = new House();
        due("g := {0 = right : 1 ; right * self right - 1} ; x := iota 4 ; a := 'q' ; y := 'ab' 'cd' 'ab' ; y := 'abc' (1 2) 5 ; z := 0 rho enc 1 2 3 ; z := 0 3 rho '' ; w := 2 2 2 rho iota 8 ; b := 'hello' ; f := {right} ; x := 2 3 rho iota 6 ; g := f/ ; z := 2 2 rho 'ab' 1 2 (3 4)", 0, -1, 266,
            "");
        due("iota foo + [x {'ab' pow 2 \"} @ g]", 1, 0, 6,
            "");
        due("#c {[rho {right} nope (x y)] x[1]} #c", 0, -1, 0,
            "");
        x = new House();
        due("x := 1 ; y := 2 3 ; z := 'ab' ; w := 3 4 ; a := 2 2 rho 1 0 ; b := 3 ; f := + ; g := , ; y := (2 2 rho 1 2 3 4) (enc 1 2) 'a' ; b := 1 0 1 1 ; z := 0 rho enc 1 2 3 ; a := 'q' ; y := 'ab' 'cd' 'ab' ; x := 3 0 rho 0 ; w := 2 2 2 rho iota 8 ; a := 3 1 2 ; z := '' ; b := 'hello' ; z := 0 3 rho ''", 0, -1, 287,
            "");
        due(":= + 2 pow", 1, 0, 2,
            "");
        due("['ab' + (. [1] + rho \\)]", 1, 0, 5,
            "");
        x = new House();
        due("a := 1r2 _3 4 ; g := rev ; f := {right} ; y := 'ab' 'cd' 'ab' ; x := 2 3 rho iota 6 ; a := 'q' ; w := 2 2 2 rho iota 8 ; a := 3 1 2 ; g := f/ ; z := 2 2 rho 'ab' 1 2 (3 4) ; y := (2 2 rho 1 2 3 4) (enc 1 2) 'a' ; z := ''", 0, -1, 260,
            "");
        due("{7 :: right ; 1 :: v} 1", 2, 0, 9,
            "");
        due("f := g ; x {x := _2 max  first 1 ; 4 | x < 2 ; 1 + 'a' ; b} 0 ; v", 2, 2, 49,
            "1\n");
        x = new House();
        due("x := 1 ; y := 2 3 ; z := 'ab' ; w := 3 4 ; a := 2 2 rho 1 0 ; b := 3 ; f := + ; g := , ; a := 'q' ; z := 0 3 rho '' ; f := {left , right} ; a := 1r2 _3 4 ; z := 2 2 rho 'ab' 1 2 (3 4) ; g := rev ; w := 5 ; y := 'abc' (1 2) 5 ; z := '' ; x := 3 0 rho 0 ; b := 1 0 1 1 ; a := 3 1 2", 0, -1, 210,
            "");
        due("q := 1 {f := {f := {1 + 'a' ; _3 find  + (left 'a ' ? 4 4) ; exe 'left + 1' ; (u x) := v :=  down 0 _1r1 3 penc 5 '''ac'} ; x , := right} ; _1 w a 19 penc  rho w} 0", 4, 0, 36,
            "");
        due("1 {{exe 'v := 3' ; x[1] := w /= (1r4 21 z)[] g ( , ' ') 1 (2 'z' deco x _4 _1) '''' fmt~ right ( up 'b''' rot x)[] z _2} right ; 1 2 :: right} 0 ; v", 2, 1, 31,
            "3\n");
        due("{15 2 ; 1 + 'a' ; x : f := + ; exe 'f 1'}\" x ; x ; f 1", 2, 2, 17,
            "[3 0]\n[3 0]\n");
        x = new House();
        due("x := 1 ; y := 2 3 ; z := 'ab' ; w := 3 4 ; a := 2 2 rho 1 0 ; b := 3 ; f := + ; g := , ; g := rev ; a := 'q' ; z := '' ; g := {0 = right : 1 ; right * self right - 1} ; f := {right} ; y := 'ab' 'cd' 'ab' ; f := {left , right} ; y := 'abc' (1 2) 5 ; x := 2 3 rho iota 6 ; x := 3 0 rho 0 ; b := 1 0 1 1 ; w := 2 2 2 rho iota 8 ; z := 2 2 rho 'ab' 1 2 (3 4) ; w := 5 ; f := +", 0, -1, 296,
            "");
        due("x {(u x) := v :=  enl 1001 (a 'c ' _1r1) 4 ; 1 iota 2 'c'} y", 4, 0, 57,
            "");
        due("{1 1 : v := right ; (v u) := (0) (y 3) ; 1 1 : v := right} x ; x ; f 1", 4, 0, 9,
            "");
        x = new House();
        due("x := 1 ; y := 2 3 ; z := 'ab' ; w := 3 4 ; a := 2 2 rho 1 0 ; b := 3 ; f := + ; g := , ; w := enc enc 1 2 ; y := (2 2 rho 1 2 3 4) (enc 1 2) 'a' ; z := 0 3 rho '' ; a := 'q' ; z := 0 rho enc 1 2 3 ; y := 'abc' (1 2) 5 ; x := 3 0 rho 0 ; x := iota 4 ; w := 2 2 2 rho iota 8", 0, -1, 293,
            "");
        due("x", 0, -1, 2,
            "1 2 3 4\n");
        due("1 key +", 1, 0, 3,
            "");
        x = new House();
        due("x := 1 ; y := 2 3 ; z := 'ab' ; w := 3 4 ; a := 2 2 rho 1 0 ; b := 3 ; f := + ; g := , ; b := 1 0 1 1 ; z := 0 3 rho '' ; y := 'ab' 'cd' 'ab' ; a := 3 1 2 ; x := 3 0 rho 0 ; g := f/ ; a := 1r2 _3 4 ; y := 'abc' (1 2) 5 ; z := 2 2 rho 'ab' 1 2 (3 4) ; g := rev", 0, -1, 224,
            "");
        due("x , := 4", 0, -1, 11,
            "");
        x.h.set(0, 0);
        due(" enc 2 b _2 ;  iota  ! b 0[0 1;] 4 _8r1 ; _1 min x 100 | _0 rot[5r2]/ ( uniq  depth (y mem 1 '''')) 3", 3, 1, 40,
            "(2 (1 0 1 1) _2)\n");
        x = new House();
        due("b := 1 0 1 1 ; a := 1r2 _3 4 ; g := f/ ; g := {0 = right : 1 ; right * self right - 1} ; f := {left , right} ; b := 'hello' ; f := {right} ; y := 'abc' (1 2) 5 ; f := + ; z := '' ; w := enc enc 1 2", 2, 2, 28,
            "");
        due("a := '''a' (3 y lcm  where z 11 min 'b''' 0 'c''') 'zc' min (_4 1 a 1 same 'c''' 0 2 y)[1] z max '  '[1;3 1;0] ' a''z' 3 and _2000000000", 3, 0, 19,
            "");
        due("y 46341", 2, 0, 3,
            "");
        x = new House();
        due("x := 1 ; y := 2 3 ; z := 'ab' ; w := 3 4 ; a := 2 2 rho 1 0 ; b := 3 ; f := + ; g := , ; x := 2 3 rho iota 6 ; y := (2 2 rho 1 2 3 4) (enc 1 2) 'a' ; w := 2 2 2 rho iota 8 ; y := 'ab' 'cd' 'ab' ; g := f/ ; w := enc enc 1 2 ; z := '' ; w := 5 ; b := 1 0 1 1 ; f := {right} ; b := 'hello' ; z := 2 2 rho 'ab' 1 2 (3 4)", 0, -1, 342,
            "");
        due("x :=  +\" (b) rho (0) 4 y ? 1", 4, 0, 34,
            "");
        due("(w x) := (y := (_1 take y) z {1000 and z 21 left\nb := (first w) := z y x _2 - 2 b} ('cab') (' ' > 'z''') z 1 (part) 2 4) 4", 5, 0, 19,
            "");
        x = new House();
        due("x := 1 ; y := 2 3 ; z := 'ab' ; w := 3 4 ; a := 2 2 rho 1 0 ; b := 3 ; f := + ; g := , ; y := (2 2 rho 1 2 3 4) (enc 1 2) 'a' ; z := 2 2 rho 'ab' 1 2 (3 4) ; x := iota 4 ; g := f/ ; y := 'abc' (1 2) 5 ; b := 'hello' ; f := + ; w := 2 2 2 rho iota 8 ; g := {0 = right : 1 ; right * self right - 1} ; a := 1r2 _3 4", 0, -1, 287,
            "");
        due(" | 0r5 4 rho w", 0, -1, 20,
            "[0 4]\n");
        due("f := rho", 0, -1, 3,
            "");
        due("(first w) := (3 b x z) find 1 ; z[2 3] :=  same  first x ; b[0;1;(_3 a 4 rho b _2 4) (4 <= x) 'zz' ''''] :=  rho  {(w y y) := ' ''' left union a;2 :: 29;depth right : 4}  tr 1", 3, 1, 101,
            "");
    }

    private static void rows12() {
        x = new House();
        due("x := iota 4 ; w := enc enc 1 2 ; f := + ; f := {right} ; y := 'ab' 'cd' 'ab' ; b := 'hello' ; w := 2 2 2 rho iota 8 ; g := {0 = right : 1 ; right * self right - 1} ; z := 0 3 rho '' ; y := 'abc' (1 2) 5 ; b := 1 0 1 1 ; g := f/", 0, -1, 184,
            "");
        due(" (enc) (a max  enl  ? y 2) ; exe 'w 1 z 4 ! _1 mem 0 ''aa'' 2 ''aaz ''' ; b := 'zaa''' 999 pick _3", 5, 0, 27,
            "");
        due("3 {w := ( where left 2)} (23 > ' ' 15 2 gcd b 0 _3 x) penc  enc '''' _1", 4, 0, 54,
            "");
        due("w := 2 _4 'b' 0 ; (x) :=  down y", 4, 1, 30,
            "");
        x = new House();
        due("x := 1 ; y := 2 3 ; z := 'ab' ; w := 3 4 ; a := 2 2 rho 1 0 ; b := 3 ; f := + ; g := , ; b := 'hello' ; z := 0 rho enc 1 2 3 ; w := 2 2 2 rho iota 8 ; z := '' ; w := 5 ; g := {0 = right : 1 ; right * self right - 1} ; g := rev", 0, -1, 162,
            "");
        due("'cb'' ' 2 z", 0, -1, 11,
            "(cb' ) 2 ()\n");
        due("g := {1 = right : w :=  , _4 _1 _4 2\nf := %}", 0, -1, 3,
            "");
        x = new House();
        due("x := 1 ; y := 2 3 ; z := 'ab' ; w := 3 4 ; a := 2 2 rho 1 0 ; b := 3 ; f := + ; g := , ; w := 5 ; w := enc enc 1 2 ; a := 1r2 _3 4 ; a := 'q' ; y := 'ab' 'cd' 'ab' ; b := 'hello' ; z := ''", 0, -1, 138,
            "");
        due("b depth a a _2r1 where 2 penc 0 ' a' ; 1 mem  % 2 > 3 0[ ceil 1] ; exe '_2 + 1 0 x '''''", 4, 0, 16,
            "");
        due("x := a without := w 4 z tr ( first x 0 '''cz') w (x 1 drop 20 4r5) 'cc'", 4, 0, 17,
            "");
        x = new House();
        due("x := iota 4 ; y := 'ab' 'cd' 'ab' ; w := 2 2 2 rho iota 8 ; z := '' ; a := 1r2 _3 4 ; z := 0 3 rho '' ; z := 2 2 rho 'ab' 1 2 (3 4) ; b := 1 0 1 1 ; f := {left , right} ; f := + ; w := 5", 0, -1, 185,
            "");
        due("y := ( split x w) 9 2 {depth right : 0 _4 1 > right (0 b _3) z[2 2;] ;  up 21 part a right x 4 without x ; 1 : y := 4 4 * a _1 = a} y b", 5, 0, 102,
            "");
        due("_0 a z min  not 28 ( rho 3 0 /=  * 2 _2)", 5, 0, 39,
            "");
        due("(x x) := w ; w := (0)", 0, -1, 10,
            "");
        x = new House();
        due("x := 1 ; y := 2 3 ; z := 'ab' ; w := 3 4 ; a := 2 2 rho 1 0 ; b := 3 ; f := + ; g := , ; y := 'ab' 'cd' 'ab' ; x := 3 0 rho 0 ; y := (2 2 rho 1 2 3 4) (enc 1 2) 'a' ; f := {left , right} ; w := enc enc 1 2 ; f := + ; z := 0 rho enc 1 2 3 ; z := 0 3 rho '' ; z := '' ; y := 'abc' (1 2) 5 ; g := {0 = right : 1 ; right * self right - 1}", 0, -1, 261,
            "");
        due("f := g ; x {1 2 :: u ; {{1 + 'a' ; 7 :: f := +} x ; 0 tr 'c' 'ca''a' ''' ' 4 (?) x} v} 1 ; x ; f 1", 2, 1, 18,
            "");
        due("f := g ; 1 {exe 'v := 3' ; 5 :: f := +}\" 2 3 ; v", 2, 2, 60,
            "3 3\n");
        due("f := g ; {0 b 2 and a and 3 ; _1 find _8r5 expand[2] w} 1 ; x ; f 1", 5, 1, 20,
            "");
        x = new House();
        due("x := 1 ; y := 2 3 ; z := 'ab' ; w := 3 4 ; a := 2 2 rho 1 0 ; b := 3 ; f := + ; g := , ; a := 'q' ; y := 'ab' 'cd' 'ab' ; w := enc enc 1 2 ; y := 'abc' (1 2) 5 ; x := 3 0 rho 0 ; b := 1 0 1 1 ; w := 5 ; y := (2 2 rho 1 2 3 4) (enc 1 2) 'a'", 0, -1, 227,
            "");
        due("q := 1 {1 + 'a'} 1 ; v", 5, 0, 15,
            "");
        due("f := g ; {u := x tr right y 3 500 ; z (0) right ; 5 :: f := + ; v :=  rev 1 _3 'a'} 2 3", 3, 1, 54,
            "");
        due("{0 :: 'got' ; ( % ' b' _2000000000)[0 1;4 4] rot\" b , 1 3 tr key w (b drop  enl right 11 a)} 2 3 ; v", 2, 1, 49,
            "got\n");
        x = new House();
        due("x := 1 ; y := 2 3 ; z := 'ab' ; w := 3 4 ; a := 2 2 rho 1 0 ; b := 3 ; f := + ; g := , ; x := iota 4 ; a := 'q' ; f := {right} ; y := 'ab' 'cd' 'ab' ; b := 1 0 1 1 ; x := 3 0 rho 0 ; f := + ; z := '' ; w := enc enc 1 2 ; a := 3 1 2 ; z := 0 3 rho '' ; b := 'hello' ; g := {0 = right : 1 ; right * self right - 1} ; g := rev", 0, -1, 197,
            "");
        due("w := 46341 y - ( | '''bcb') z rho (1 2 gcd ( match 'z''') b) 'ca' _3 ; ('b') < ( % b ^ y 2 _4 /= 4 _3[3])", 1, 0, 8,
            "");
        due(" | (4 b depth z) 'z'", 1, 0, 14,
            "");
        due("_3 0 union 'aa''' >=/  | a[1 1;0;] 26", 3, 0, 15,
            "");
        x = new House();
        due("x := 1 ; y := 2 3 ; z := 'ab' ; w := 3 4 ; a := 2 2 rho 1 0 ; b := 3 ; f := + ; g := , ; f := {right} ; g := {0 = right : 1 ; right * self right - 1} ; z := 2 2 rho 'ab' 1 2 (3 4) ; x := iota 4 ; a := 'q' ; w := enc enc 1 2 ; y := (2 2 rho 1 2 3 4) (enc 1 2) 'a' ; z := 0 3 rho '' ; a := 1r2 _3 4 ; y := 'ab' 'cd' 'ab'", 0, -1, 264,
            "");
        due("y := 123456789 _2r4 'az' b without 'z''' 3 {1 = right : 1 '''';0 = tally right :  split 1 ' az';x[] := (1 + x) := y 4 _6r4 part _1 4r3} (x z =  min 2 w y) (_4 1 penc _3 ^ 3) 2 ' c' ; ' c '[; - y;1 1] % 'a' _2 ; 4 same  + 0r5 iota 1 b", 4, 0, 20,
            "");
        due("(w) := a :=  {z :=  drop z 2 1;b '''za'} (1 min z 13 0 3) 'b' b ,[3] (b[0;;2] := 12 a match 4 y 3) x penc y[2 2;] 0 ( fmt 0)[0;2]", 3, 0, 13,
            "");
        due("y ( same 1 match  > key 2 6r2 'zcbc') 3 ((y) min (1 enco 4r6 19) find y w)", 4, 0, 68,
            "");
        x = new House();
        due("x := 1 ; y := 2 3 ; z := 'ab' ; w := 3 4 ; a := 2 2 rho 1 0 ; b := 3 ; f := + ; g := , ; y := 'abc' (1 2) 5 ; y := 'ab' 'cd' 'ab' ; z := 2 2 rho 'ab' 1 2 (3 4) ; z := 0 3 rho '' ; f := {right} ; z := 0 rho enc 1 2 3 ; g := {0 = right : 1 ; right * self right - 1} ; b := 'hello' ; g := f/ ; g := rev ; w := enc enc 1 2 ; x := 2 3 rho iota 6 ; f := +", 0, -1, 290,
            "");
        due("0 b x[2] (1 part x) where (w)[b < 'bzzb'] (3 2 enc 2 x) or ((z penc 9r3) 3[0;0] a) a 1000[4 b ^ _4] ; f := (rep) ; 1 - 1", 5, 0, 21,
            "");
        due("w rep :=  floor 2 x", 5, 0, 43,
            "");
        due("(3 3) (5 0 = _2 w) (0r5 z enco 2) a > 1 b +  enl y 1 b x[;2; tr 3 0]", 3, 0, 23,
            "");
        x = new House();
        due("x := 1 ; y := 2 3 ; z := 'ab' ; w := 3 4 ; a := 2 2 rho 1 0 ; b := 3 ; f := + ; g := , ; z := 0 3 rho '' ; a := 'q' ; b := 1 0 1 1 ; g := rev ; g := f/ ; x := iota 4 ; z := '' ; y := 'abc' (1 2) 5", 0, -1, 138,
            "");
        due("{left [+]} -", 1, 0, 3,
            "");
        due("[('' mix _1) 1 + /= nope] pow ,", 1, 0, 3,
            "");
    }

    private static void rows13() {
        x = new House();
        due("x := 1 ; y := 2 3 ; z := 'ab' ; w := 3 4 ; a := 2 2 rho 1 0 ; b := 3 ; f := + ; g := , ; g := rev ; f := {left , right} ; a := 'q' ; a := 3 1 2 ; a := 1r2 _3 4 ; z := 0 rho enc 1 2 3 ; y := 'abc' (1 2) 5 ; z := 2 2 rho 'ab' 1 2 (3 4) ; y := 'ab' 'cd' 'ab' ; f := + ; w := 5 ; z := '' ; g := f/ ; x := iota 4 ; g := {0 = right : 1 ; right * self right - 1}", 0, -1, 254,
            "");
        due("x[1] (rho rev (f) {+ +} (+)) / . iota", 1, 0, 8,
            "");
        due("nope f [(x[1] rank 1 /= (f)) {right} + [right \" rho] +]", 1, 0, 4,
            "");
        x = new House();
        due("g := rev ; y := 'ab' 'cd' 'ab' ; f := + ; w := 2 2 2 rho iota 8 ; g := f/ ; x := iota 4 ; a := 3 1 2 ; b := 1 0 1 1 ; x := 3 0 rho 0 ; y := 'abc' (1 2) 5 ; z := 2 2 rho 'ab' 1 2 (3 4) ; y := (2 2 rho 1 2 3 4) (enc 1 2) 'a' ; x := 2 3 rho iota 6", 0, -1, 307,
            "");
        due("exe '''z'''''''''''''' penc ( enl b * 1 < z w 8r5[0 3;b] (''a'')) match rank 0\" ('' ''''''[0; enl 6r4 w;2]) (''''''a''[2;1 3])' ; (z 4)", 3, 0, 121,
            "");
        due("3 24 tr 'b'", 4, 0, 11,
            "");
        due("w :=  mix (2 '') x[0;3 union x 10] ( enc 3) y same 2 2 z 21[0 0;2 1]", 3, 0, 16,
            "");
        x = new House();
        due("x := 1 ; y := 2 3 ; z := 'ab' ; w := 3 4 ; a := 2 2 rho 1 0 ; b := 3 ; f := + ; g := , ; a := 1r2 _3 4 ; w := 2 2 2 rho iota 8 ; z := '' ; x := 3 0 rho 0 ; a := 3 1 2 ; y := (2 2 rho 1 2 3 4) (enc 1 2) 'a' ; w := 5 ; y := 'ab' 'cd' 'ab' ; x := 2 3 rho iota 6 ; f := {right}", 0, -1, 273,
            "");
        due("y[1] := 1 ('az' w)", 3, 0, 17,
            "");
        due("2 1[0 3] y", 3, 0, 11,
            "");
        due("2 ( floor  !  + ('''')) %~ _1 4 '' 1 ; _2000000000 w <  ceil b 0 ; x[;2 1r2000000000 4 pick~  tr rank 0 1 4 drop~ (b >= 0 inter 2 (z) ( first ' bb' _1 w)) (w rep  first 0) _3 4] := '' (_1[1 3]) 3", 5, 0, 18,
            "");
        x = new House();
        due("x := 1 ; y := 2 3 ; z := 'ab' ; w := 3 4 ; a := 2 2 rho 1 0 ; b := 3 ; f := + ; g := , ; z := 2 2 rho 'ab' 1 2 (3 4) ; a := 'q' ; y := 'abc' (1 2) 5 ; z := 0 3 rho '' ; x := 3 0 rho 0 ; w := enc enc 1 2 ; x := 2 3 rho iota 6 ; g := rev ; g := {0 = right : 1 ; right * self right - 1} ; a := 3 1 2", 0, -1, 242,
            "");
        due("'zzc' * 3 x b[1 3;3 penc 4 a b 1] g (a min  mix 46341 4 1 0 penc (''' bc' rot b _3))[;] 3", 3, 0, 17,
            "");
        due("g := {3 4 5 ::  + y;1 : _3 min 3 2;w[right 3 0] := _2 1}", 0, -1, 3,
            "");
        x.h.set(0, 1);
        x = new House();
        due("x := 1 ; y := 2 3 ; z := 'ab' ; w := 3 4 ; a := 2 2 rho 1 0 ; b := 3 ; f := + ; g := , ; z := 0 rho enc 1 2 3 ; b := 1 0 1 1 ; z := '' ; f := {left , right} ; y := 'abc' (1 2) 5 ; a := 1r2 _3 4 ; x := 3 0 rho 0 ; y := 'ab' 'cd' 'ab' ; a := 'q' ; b := 'hello' ; f := + ; g := {0 = right : 1 ; right * self right - 1} ; w := 2 2 2 rho iota 8", 0, -1, 250,
            "");
        due("(z := 0 b <= 'b aa') >= (0 find x z w 0) min  split 0", 4, 0, 80,
            "");
        due("w 'c' (19 'b') 1 ; y[0;1] := x b 4 ;  depth (25) 3", 3, 1, 38,
            "([2 2 2]1 2 3 4 5 6 7 8) c (19 b) 1\n");
        due(" enl\" z 6r4 rep 0 /= 0", 5, 0, 18,
            "");
        x = new House();
        due("y := 'abc' (1 2) 5 ; w := 2 2 2 rho iota 8 ; a := 3 1 2 ; z := 0 rho enc 1 2 3 ; f := {left , right} ; a := 1r2 _3 4 ; y := 'ab' 'cd' 'ab' ; z := 2 2 rho 'ab' 1 2 (3 4) ; x := 2 3 rho iota 6 ; g := f/ ; x := 3 0 rho 0", 0, -1, 260,
            "");
        due("(((((((((((1", -20, -1, 0,
            "");
        due("iota 0", 0, -1, 5,
            "\n");
        due("33 rho 0", 0, -1, 40,
            "0 0 0 0 0 0 0 0 0 0 0 0 0 0 0 0 0 0 0 0 0 0 0 0 0 0 0 0 0 0 0 0 0\n");
        x = new House();
        due("x := 1 ; y := 2 3 ; z := 'ab' ; w := 3 4 ; a := 2 2 rho 1 0 ; b := 3 ; f := + ; g := , ; z := 0 3 rho '' ; w := 5 ; f := {left , right} ; g := f/ ; y := 'ab' 'cd' 'ab' ; z := 0 rho enc 1 2 3 ; x := iota 4 ; b := 'hello' ; y := (2 2 rho 1 2 3 4) (enc 1 2) 'a' ; x := 2 3 rho iota 6 ; z := 2 2 rho 'ab' 1 2 (3 4) ; g := {0 = right : 1 ; right * self right - 1} ; a := 'q'", 0, -1, 315,
            "");
        due("f := g ; 1 {1 + 'a' ; 1 0 max (b union 4) (1 a 'bc' 3) ; u :=  + 2000000000 take 4[3 left _4 match 'zccc' '']} 2 3 ; x ; f 1", 5, 1, 22,
            "");
        due("x {f := {self x ; 1 2 :: v := 9 ; 1 + 'a' ; 3 4 5 :: v := 9} ; 1 1 : u ; 4 :: 'got'} y ; v", 4, 0, 29,
            "");
        x = new House();
        due("x := 1 ; y := 2 3 ; z := 'ab' ; w := 3 4 ; a := 2 2 rho 1 0 ; b := 3 ; f := + ; g := , ; x := iota 4 ; z := 0 rho enc 1 2 3 ; y := 'abc' (1 2) 5 ; g := {0 = right : 1 ; right * self right - 1} ; g := rev ; x := 3 0 rho 0 ; w := 5 ; w := enc enc 1 2 ; z := 0 3 rho '' ; y := (2 2 rho 1 2 3 4) (enc 1 2) 'a' ; w := 2 2 2 rho iota 8 ; a := 'q'", 0, -1, 303,
            "");
        due("x :=  g 3 4", 0, -1, 15,
            "");
        due("g := g ; z or := 29 ; b part x", 4, 2, 17,
            "");
        due("a b '' 1[1;3;] ;  ,[0]  floor  not _1 x", 3, 0, 8,
            "");
        x = new House();
        due("f := {right} ; f := + ; x := iota 4 ; x := 2 3 rho iota 6 ; x := 3 0 rho 0 ; g := rev ; z := '' ; z := 0 rho enc 1 2 3 ; y := 'abc' (1 2) 5 ; y := 'ab' 'cd' 'ab' ; z := 0 3 rho '' ; z := 2 2 rho 'ab' 1 2 (3 4)", 0, -1, 218,
            "");
        due("x := 12 _4[2 2;0 3] f b[2] '''cb' b", 2, 0, 2,
            "");
        due("(a) := 'c' x 2 lcm z :=  rep key y (4 0 w) (a y w (x 6r4 3) expand[1r2] y) ; 46341 ;  uniq  down 65536 (1 2)", 2, 0, 13,
            "");
        due("_3 6r4 3[2 3]", 3, 0, 10,
            "");
        x = new House();
        due("x := 1 ; y := 2 3 ; z := 'ab' ; w := 3 4 ; a := 2 2 rho 1 0 ; b := 3 ; f := + ; g := , ; y := (2 2 rho 1 2 3 4) (enc 1 2) 'a' ; a := 'q' ; x := 3 0 rho 0 ; b := 1 0 1 1 ; x := 2 3 rho iota 6 ; z := '' ; f := {left , right} ; g := f/ ; b := 'hello' ; y := 'ab' 'cd' 'ab' ; a := 1r2 _3 4 ; w := 2 2 2 rho iota 8", 0, -1, 289,
            "");
        due("g := /=", 0, -1, 3,
            "");
        due("x := w and '' ; (_1 rot y) := 0[2 2;1;] _2 y 'bzca'", 3, 0, 14,
            "");
        due("g := rep[x]", 0, -1, 4,
            "");
    }

    private static void rows14() {
        x = new House();
        due("f := {right} ; a := 'q' ; g := {0 = right : 1 ; right * self right - 1} ; x := 2 3 rho iota 6 ; w := 2 2 2 rho iota 8 ; y := 'abc' (1 2) 5 ; z := 0 rho enc 1 2 3 ; y := 'ab' 'cd' 'ab' ; w := 5 ; g := rev", 0, -1, 185,
            "");
        due("(x) + +", 1, 0, 3,
            "");
        due("pow", 1, 0, 2,
            "");
        due("1r2 {right} rho (+ rev) [, +]", 1, 0, 3,
            "");
        x = new House();
        due("x := 1 ; y := 2 3 ; z := 'ab' ; w := 3 4 ; a := 2 2 rho 1 0 ; b := 3 ; f := + ; g := , ; b := 'hello' ; w := 5 ; x := iota 4 ; f := + ; a := 1r2 _3 4 ; g := {0 = right : 1 ; right * self right - 1} ; f := {right} ; y := 'ab' 'cd' 'ab'", 0, -1, 128,
            "");
        due("f := g ; x { first _2 x ; {f := {exe 'v := 3' ; g x ; 5 :: 1 + 'a'} ; v := {depth right : v := right} ; 1 + 'a'} left}\" x ; x ; f 1", 0, -1, 159,
            "_2 _2 _2 _2\n1 2 3 4\n1\n");
        due("f := g ; 1 {{4 :: left ; z[1 3;3 3;3 2] gcd  f w b same (3 10 b)} right ; 2 :: u}/ y ; v", 2, 2, 34,
            "(ab) (cd) (ab)\n");
        due("q := {3 :: u} 1 ; v", 2, 0, 8,
            "");
        x = new House();
        due("g := {0 = right : 1 ; right * self right - 1} ; z := 0 rho enc 1 2 3 ; g := f/ ; z := '' ; w := enc enc 1 2 ; z := 0 3 rho '' ; x := 3 0 rho 0 ; a := 1r2 _3 4 ; f := {left , right} ; w := 5 ; b := 1 0 1 1 ; x := iota 4", 2, 2, 39,
            "");
        due(" not  first 'ba' ((16 x 500 ? 24 _2 w 3)) not\" ( * y expand[1] y w w) x", 2, 0, 2,
            "");
        due(" tr ('b ' 1) 3", 0, -1, 29,
            "((b ) 1) 3\n");
        due("w x 3 (same)  , ' '", 2, 0, 10,
            "");
        x = new House();
        due("x := 1 ; y := 2 3 ; z := 'ab' ; w := 3 4 ; a := 2 2 rho 1 0 ; b := 3 ; f := + ; g := , ; a := 3 1 2 ; w := 5 ; f := {right} ; y := (2 2 rho 1 2 3 4) (enc 1 2) 'a' ; w := enc enc 1 2 ; z := 2 2 rho 'ab' 1 2 (3 4) ; x := 2 3 rho iota 6 ; z := 0 3 rho '' ; b := 'hello'", 0, -1, 270,
            "");
        due(" tr 3 (z enco 0 0 b[0 2;b;2 3]) y", 3, 0, 28,
            "");
        due("w", 0, -1, 2,
            "((1 2))\n");
        x = new House();
        due("z := '' ; w := 5 ; w := enc enc 1 2 ; f := {right} ; a := 3 1 2 ; g := rev ; f := + ; z := 2 2 rho 'ab' 1 2 (3 4) ; b := 1 0 1 1 ; a := 'q' ; x := iota 4 ; a := 1r2 _3 4", 0, -1, 146,
            "");
        due("(((((((((((((((((((((((((((((((((((((((1 + 1)))))))))))))))))))))))))))))))))))))))", 0, -1, 47,
            "2\n");
        due("1001 33 rho 1", 7, 0, 11,
            "");
        x = new House();
        due("x := 1 ; y := 2 3 ; z := 'ab' ; w := 3 4 ; a := 2 2 rho 1 0 ; b := 3 ; f := + ; g := , ; a := 3 1 2 ; w := 5 ; y := 'abc' (1 2) 5 ; a := 1r2 _3 4 ; b := 'hello' ; w := enc enc 1 2 ; g := rev ; g := {0 = right : 1 ; right * self right - 1} ; f := {left , right} ; y := (2 2 rho 1 2 3 4) (enc 1 2) 'a' ; f := +", 0, -1, 216,
            "");
        due("z := b >= 1 ; x :=  ceil 8r4[] ; b := a", 5, 0, 12,
            "");
        due("b deco 0 pick  fmt 3 ; a := b ?\"  first 2 3 ^ key 3", 6, 0, 12,
            "");
        due(" ?  pick x (_4 = 'a' 2 _2) z", 1, 0, 30,
            "");
        x = new House();
        due("x := 1 ; y := 2 3 ; z := 'ab' ; w := 3 4 ; a := 2 2 rho 1 0 ; b := 3 ; f := + ; g := , ; g := f/ ; w := enc enc 1 2 ; z := '' ; g := rev ; x := iota 4 ; w := 5 ; f := + ; a := 3 1 2 ; a := 'q' ; y := 'ab' 'cd' 'ab'", 0, -1, 155,
            "");
        due("1 'b ac' ( first 10) w[] max  ! x 'zzz'''", 5, 0, 26,
            "");
        x.h.set(0, 0);
        x = new House();
        due("x := 1 ; y := 2 3 ; z := 'ab' ; w := 3 4 ; a := 2 2 rho 1 0 ; b := 3 ; f := + ; g := , ; z := 0 rho enc 1 2 3 ; x := 3 0 rho 0 ; w := 5 ; g := {0 = right : 1 ; right * self right - 1} ; y := 'ab' 'cd' 'ab' ; f := + ; f := {right} ; w := enc enc 1 2 ; a := 'q' ; f := {left , right} ; x := 2 3 rho iota 6 ; z := 2 2 rho 'ab' 1 2 (3 4) ; w := 2 2 2 rho iota 8", 0, -1, 310,
            "");
        due("{f := {5 :: u ; exe 'v ; u'} ; 2 :: x ; f := {_4 >  ! 0 ; 1 + 'a' ; 1 '' mem 9 a first (y w) := _1 match (b < b) ; 5 :: }} x ; v", 2, 1, 27,
            "[2 3]1 2 3 4 5 6\n");
        due("1 {{6 :: right ; f := {exe 'f 1' ; f v ; 1 2 ::  ; right : self 0}} v ;  enl 2 'a'} 0 ; x ; f 1", 2, 0, 9,
            "");
        due("{{v := {exe 'f 1' ; exe 'left + 1' ; v[1] := 'abb' 8 union 'zc' 'c''' | 3r4 ' ' 'c'[0; split '''''' 0 1000 _7r4] ; right : }} right ; v + :=  first  match 4}/ x ; x ; f 1", 2, 0, 24,
            "");
        x = new House();
        due("x := 1 ; y := 2 3 ; z := 'ab' ; w := 3 4 ; a := 2 2 rho 1 0 ; b := 3 ; f := + ; g := , ; z := '' ; g := {0 = right : 1 ; right * self right - 1} ; a := 3 1 2 ; f := + ; f := {right} ; w := 2 2 2 rho iota 8 ; g := rev ; x := iota 4 ; y := 'ab' 'cd' 'ab' ; w := enc enc 1 2 ; w := 5 ; a := 1r2 _3 4 ; z := 2 2 rho 'ab' 1 2 (3 4)", 0, -1, 262,
            "");
        due("+", 1, 0, 2,
            "");
        due("2 (x) _1", 0, -1, 12,
            "2 (1 2 3 4) _1\n");
        due("{+ {pow 2 x}} g {+ rank} pow right", 2, 0, 2,
            "");
        x = new House();
        due("x := 1 ; y := 2 3 ; z := 'ab' ; w := 3 4 ; a := 2 2 rho 1 0 ; b := 3 ; f := + ; g := , ; f := {left , right} ; w := enc enc 1 2 ; g := rev ; f := {right} ; a := 'q' ; g := f/ ; b := 1 0 1 1 ; z := 0 rho enc 1 2 3 ; z := '' ; z := 2 2 rho 'ab' 1 2 (3 4) ; b := 'hello'", 0, -1, 211,
            "");
        due("4 'a''' penc ( uniq b 4 x 2 iota  tally (a lcm :=  ceil 4 _2 _4r6 3))", 5, 0, 28,
            "");
        due("x := _1 y _3 9r1 ; f := {0 : 24 union _9r3} ; 0 union ' ca ' %/ z := ( min 4 1 y) w 4 y rot _1 1 ( penc ''' ')[3; where 22 1000]", 7, 2, 30,
            "");
    }

    private static void rows15() {
        x = new House();
        due("z := 2 2 rho 'ab' 1 2 (3 4) ; f := {left , right} ; f := {right} ; y := 'abc' (1 2) 5 ; g := rev ; f := + ; z := '' ; y := 'ab' 'cd' 'ab' ; x := iota 4 ; g := f/", 0, -1, 132,
            "");
        due("g/[2] 4 6 3 rho iota 20", 3, 0, 222,
            "");
        due("split 0 32 rho 0", 0, -1, 46,
            "\n");
        due("*/ iota 40", 7, 0, 108,
            "");
        x = new House();
        due("y := (2 2 rho 1 2 3 4) (enc 1 2) 'a' ; z := 0 rho enc 1 2 3 ; f := {left , right} ; g := f/ ; a := 'q' ; y := 'ab' 'cd' 'ab' ; x := 2 3 rho iota 6 ; y := 'abc' (1 2) 5 ; w := 2 2 2 rho iota 8", 0, -1, 240,
            "");
        due("+ + [rev foo nope {+ #c + nope}] ~", -28, -1, 0,
            "");
        due("+ (x y)", 5, 0, 38,
            "");
        x = new House();
        due("x := 1 ; y := 2 3 ; z := 'ab' ; w := 3 4 ; a := 2 2 rho 1 0 ; b := 3 ; f := + ; g := , ; z := 2 2 rho 'ab' 1 2 (3 4) ; y := (2 2 rho 1 2 3 4) (enc 1 2) 'a' ; g := rev ; w := 5 ; g := {0 = right : 1 ; right * self right - 1} ; g := f/ ; f := {right} ; z := 0 3 rho ''", 0, -1, 198,
            "");
        due("21 enco 1000000007r3", 0, -1, 8,
            "62r3\n");
        due("((((((((((((((((((((((((((((((((((((((1", -47, -1, 0,
            "");
        due("?  w", 0, -1, 6,
            "3\n");
        x = new House();
        due("x := 1 ; y := 2 3 ; z := 'ab' ; w := 3 4 ; a := 2 2 rho 1 0 ; b := 3 ; f := + ; g := , ; b := 'hello' ; a := 1r2 _3 4 ; f := + ; b := 1 0 1 1 ; x := iota 4 ; x := 2 3 rho iota 6 ; z := 2 2 rho 'ab' 1 2 (3 4) ; w := enc enc 1 2 ; a := 3 1 2 ; y := 'ab' 'cd' 'ab' ; x := 3 0 rho 0 ; z := '' ; z := 0 3 rho '' ; z := 0 rho enc 1 2 3 ; f := {right}", 0, -1, 319,
            "");
        due("a :=  enc _3 * 2", 0, -1, 14,
            "");
        due("(a x) := (65536 (b a ? 4 a) (take) ((x) _4[1 0 enc x;2]) 100 '''a' ( enc y rho 0))[2;w mem (5r2 0 a) a (0) y] 0 y", 5, 0, 72,
            "");
        due("4 {'a' :: a := 'c ' b ' ' % 4 b 2\nz :=  first x right} 4r3 (a 1000 rev (3 w _0 3 split _9r5)) ; y y x y ;  split w", 1, 0, 17,
            "");
        x = new House();
        due("x := 1 ; y := 2 3 ; z := 'ab' ; w := 3 4 ; a := 2 2 rho 1 0 ; b := 3 ; f := + ; g := , ; f := {left , right} ; x := 2 3 rho iota 6 ; w := 2 2 2 rho iota 8 ; y := 'ab' 'cd' 'ab' ; z := '' ; z := 2 2 rho 'ab' 1 2 (3 4) ; y := (2 2 rho 1 2 3 4) (enc 1 2) 'a' ; z := 0 3 rho '' ; z := 0 rho enc 1 2 3 ; x := iota 4 ; a := 'q' ; a := 3 1 2 ; y := 'abc' (1 2) 5", 0, -1, 383,
            "");
        due("' z' ( down x 4 1 100) match 2 'a''' 3 ; y expand := 2 {3 4 5 ::  iota (''' ' lcm a)} a (b 4 1001 ? . find x) ; z 4 '''bzc' 4", 4, 1, 81,
            "0\n");
        due("b ? := z without  where _4r2 deco _1 b ' b' 1", 5, 0, 22,
            "");
        x = new House();
        due("x := 1 ; y := 2 3 ; z := 'ab' ; w := 3 4 ; a := 2 2 rho 1 0 ; b := 3 ; f := + ; g := , ; x := 2 3 rho iota 6 ; z := 0 rho enc 1 2 3 ; w := 5 ; f := + ; z := 0 3 rho '' ; g := rev", 0, -1, 151,
            "");
        x.h.set(0, 0);
        due("f := g ; {v[1] := 1 _9r2 3 _4 max y ; 7 :: 'got'} 2 3 ; x ; f 1", 4, 1, 32,
            "");
        due("q := x {g := {{1 2 :: 'got' ; 3} x} ; 3 :: u} y ; v", 2, 0, 19,
            "");
        x = new House();
        due("x := 1 ; y := 2 3 ; z := 'ab' ; w := 3 4 ; a := 2 2 rho 1 0 ; b := 3 ; f := + ; g := , ; y := 'ab' 'cd' 'ab' ; z := 0 3 rho '' ; y := 'abc' (1 2) 5 ; g := {0 = right : 1 ; right * self right - 1} ; w := 2 2 2 rho iota 8 ; b := 1 0 1 1 ; z := 2 2 rho 'ab' 1 2 (3 4) ; g := f/", 0, -1, 239,
            "");
        due("f := * key ; 3", 0, -1, 6,
            "3\n");
        due(" ,[1 2]\" (14 ceil w = z (1 without 0)[3;2 3] x b)", 3, 0, 22,
            "");
        x = new House();
        due("w := 2 2 2 rho iota 8 ; x := 3 0 rho 0 ; f := + ; x := 2 3 rho iota 6 ; a := 'q' ; y := 'abc' (1 2) 5 ; z := 2 2 rho 'ab' 1 2 (3 4) ; b := 1 0 1 1 ; g := rev ; w := enc enc 1 2 ; x := iota 4", 0, -1, 238,
            "");
        due("f := g ; 1 {{(1 take x) :=  rho (28 part _2) right (3 1000 0 w) 'b' ; 1 :: v} left ; 1 2 :: v} 2 3", 2, 1, 98,
            "");
        due("q := {v := {2 :: v ; 1 + 'a'}} 2 3", 2, 0, 13,
            "");
        due("{v + := 0 rep z x b 1[] and . lcm 10 ; 1 + 'a' ; {x[1] :=  |  where\" 0 right ; z '' (right 1 % 'c') 3 rot (4 65536 2 lcm 4 b 4) max '' ; 1 + 'a' ; 1 : u} left ; {2 ::  ; g := {1 2 :: right ; 1 + 'a' ; (u x) := v :=  enl 0 1 2 ; 1 + 'a'} ; exe 'x[1] := 4'} left}/ x", 3, 0, 21,
            "");
        x = new House();
        due("x := 1 ; y := 2 3 ; z := 'ab' ; w := 3 4 ; a := 2 2 rho 1 0 ; b := 3 ; f := + ; g := , ; z := 2 2 rho 'ab' 1 2 (3 4) ; f := {right} ; a := 'q' ; y := (2 2 rho 1 2 3 4) (enc 1 2) 'a' ; w := 2 2 2 rho iota 8 ; b := 1 0 1 1 ; x := iota 4 ; x := 2 3 rho iota 6 ; w := enc enc 1 2 ; z := 0 3 rho ''", 0, -1, 328,
            "");
        due("g := +", 0, -1, 3,
            "");
        due("z :=  = a[(_3 iota z 16) '''c' z] :=  without (3 0 y , 2r1 19 w tr _4) 4 {0 y} 999 _4", 4, 0, 30,
            "");
        due("w[0 3;] :=  g (9r1) _9r5 ( same b w[ - _4 w;1 0;0] (b 4 _1) 1) ;  floor 'a''b '[;2 3;0]", 3, 0, 56,
            "");
        x = new House();
        due("x := 1 ; y := 2 3 ; z := 'ab' ; w := 3 4 ; a := 2 2 rho 1 0 ; b := 3 ; f := + ; g := , ; y := (2 2 rho 1 2 3 4) (enc 1 2) 'a' ; b := 1 0 1 1 ; b := 'hello' ; x := 3 0 rho 0 ; a := 3 1 2 ; w := 2 2 2 rho iota 8 ; f := + ; z := '' ; g := f/ ; a := 1r2 _3 4 ; g := {0 = right : 1 ; right * self right - 1} ; w := 5 ; y := 'ab' 'cd' 'ab' ; x := iota 4", 0, -1, 279,
            "");
        due("x :=  tally a 3 or 123456789", 5, 0, 18,
            "");
        due(" enc '''' b 0", 0, -1, 31,
            "(' (hello) 0)\n");
        due("(b b) :=  not pow x _3 take z", 4, 0, 17,
            "");
    }

    private static void rows16() {
        x = new House();
        due("x := 1 ; y := 2 3 ; z := 'ab' ; w := 3 4 ; a := 2 2 rho 1 0 ; b := 3 ; f := + ; g := , ; w := 2 2 2 rho iota 8 ; g := rev ; y := (2 2 rho 1 2 3 4) (enc 1 2) 'a' ; a := 3 1 2 ; w := enc enc 1 2 ; z := 0 rho enc 1 2 3 ; x := iota 4 ; y := 'abc' (1 2) 5 ; z := 0 3 rho '' ; z := '' ; a := 1r2 _3 4", 0, -1, 305,
            "");
        due("a 0 penc/ w ;  up 1[1 w z _3]", 3, 0, 21,
            "");
        due("a[] :=  ceil w _3 g (0) 0 ( iota 2r4 ( same 4 0) 1 18) z", 5, 0, 31,
            "");
        x = new House();
        due("x := 1 ; y := 2 3 ; z := 'ab' ; w := 3 4 ; a := 2 2 rho 1 0 ; b := 3 ; f := + ; g := , ; y := (2 2 rho 1 2 3 4) (enc 1 2) 'a' ; f := {left , right} ; a := 'q' ; g := f/ ; x := 3 0 rho 0 ; g := {0 = right : 1 ; right * self right - 1} ; z := 2 2 rho 'ab' 1 2 (3 4) ; z := '' ; y := 'ab' 'cd' 'ab'", 0, -1, 222,
            "");
        due("g := * ; f := and ; y _4 f x", 3, 2, 35,
            "");
        due("x := _2 _3 penc b match b ( down 0 0 4 0) z", 4, 0, 51,
            "");
        x = new House();
        due("x := 1 ; y := 2 3 ; z := 'ab' ; w := 3 4 ; a := 2 2 rho 1 0 ; b := 3 ; f := + ; g := , ; f := {left , right} ; z := 0 3 rho '' ; x := 3 0 rho 0 ; g := rev ; a := 1r2 _3 4 ; a := 'q' ; z := 2 2 rho 'ab' 1 2 (3 4) ; g := f/ ; f := {right}", 0, -1, 161,
            "");
        due("f := g ; x {f :=  % z rho 1 ( down w 4 21 '') 30 4 ; right 20 ; f := {{f v ; 6 :: 'got'} left ; 5 :: right} ; 1 + 'a'} x", 3, 1, 66,
            "");
        due("f := g ; x {right :  ; 1 :: right ; {x := 2 3 + 15 ; x , := z := a rep 1 x 2 4 mem  | y 4 _3 (a 1 '''c' >= 2 left)} right}/ x ; v", 7, 0, 62,
            "");
        x = new House();
        due("x := 1 ; y := 2 3 ; z := 'ab' ; w := 3 4 ; a := 2 2 rho 1 0 ; b := 3 ; f := + ; g := , ; a := 'q' ; z := '' ; z := 0 3 rho '' ; w := enc enc 1 2 ; g := rev ; b := 1 0 1 1 ; y := 'abc' (1 2) 5 ; x := iota 4 ; z := 0 rho enc 1 2 3", 0, -1, 192,
            "");
        due("+ @ ''", 1, 0, 4,
            "");
        due("(foo ~ pow 2 . {right}) x", 2, 0, 9,
            "");
        x = new House();
        due("x := 1 ; y := 2 3 ; z := 'ab' ; w := 3 4 ; a := 2 2 rho 1 0 ; b := 3 ; f := + ; g := , ; b := 'hello' ; w := 5 ; y := 'abc' (1 2) 5 ; f := + ; x := iota 4 ; g := rev ; g := {0 = right : 1 ; right * self right - 1} ; a := 'q' ; y := (2 2 rho 1 2 3 4) (enc 1 2) 'a' ; w := enc enc 1 2 ; a := 3 1 2 ; a := 1r2 _3 4 ; y := 'ab' 'cd' 'ab' ; b := 1 0 1 1 ; f := {left , right}", 0, -1, 271,
            "");
        due("{left , right}\\ iota 5", 0, -1, 222,
            "1 (1 2) (1 2 3) (1 2 3 4) (1 2 3 4 5)\n");
        due("{{{right}}} 1", 1, 0, 7,
            "");
        due("x := 501 rho enc 2 rho 'a'", 7, 0, 24,
            "");
        x = new House();
        due("x := 1 ; y := 2 3 ; z := 'ab' ; w := 3 4 ; a := 2 2 rho 1 0 ; b := 3 ; f := + ; g := , ; a := 1r2 _3 4 ; w := 5 ; x := iota 4 ; w := 2 2 2 rho iota 8 ; w := enc enc 1 2 ; z := 2 2 rho 'ab' 1 2 (3 4) ; b := 1 0 1 1", 0, -1, 227,
            "");
        due("_1 >= (x w same b) find\" a _1 b {0 = tally right : 2 '';(_1 rot b) := 2000000000 'z' right 0r5 = right 4 x 4} 2 'ab' 4 (1 65536 pick 3 2 a < z < 2)", 5, 0, 16,
            "");
        due(" <= w", 1, 0, 3,
            "");
        due(" *  where (3 y >= y[] := _4 '''' rot 2 (w 'a ') x) '''b'", 3, 0, 55,
            "");
        x = new House();
        due("x := 1 ; y := 2 3 ; z := 'ab' ; w := 3 4 ; a := 2 2 rho 1 0 ; b := 3 ; f := + ; g := , ; b := 'hello' ; f := {right} ; a := 'q' ; a := 1r2 _3 4 ; g := rev ; f := {left , right} ; f := + ; x := 2 3 rho iota 6 ; z := 2 2 rho 'ab' 1 2 (3 4) ; z := '' ; z := 0 3 rho '' ; x := 3 0 rho 0", 0, -1, 208,
            "");
        due(":= , + {key {y take +} + (+)}", 1, 0, 3,
            "");
        due("[+ mix '' y]", 5, 0, 23,
            "");
        due("/=", 1, 0, 2,
            "");
        x = new House();
        due("x := 1 ; y := 2 3 ; z := 'ab' ; w := 3 4 ; a := 2 2 rho 1 0 ; b := 3 ; f := + ; g := , ; x := 3 0 rho 0 ; f := {left , right} ; a := 3 1 2 ; b := 1 0 1 1 ; y := 'abc' (1 2) 5 ; a := 'q' ; w := 2 2 2 rho iota 8 ; w := 5 ; y := 'ab' 'cd' 'ab' ; y := (2 2 rho 1 2 3 4) (enc 1 2) 'a' ; f := {right}", 0, -1, 267,
            "");
        due("_1 (+ + '' {+}) (rank 1 + self [[1]] {+ + left := rev})", 1, 0, 4,
            "");
        due("[+ + mix pow 2] (pow 2 {rho self} 1r2 + x[1]) =", 3, 0, 7,
            "");
        due("mix", 1, 0, 2,
            "");
        x = new House();
        due("f := {right} ; z := 0 rho enc 1 2 3 ; y := 'abc' (1 2) 5 ; w := 2 2 2 rho iota 8 ; z := 0 3 rho '' ; f := {left , right} ; x := 2 3 rho iota 6 ; w := enc enc 1 2 ; z := 2 2 rho 'ab' 1 2 (3 4) ; a := 3 1 2 ; y := 'ab' 'cd' 'ab' ; g := f/ ; y := (2 2 rho 1 2 3 4) (enc 1 2) 'a' ; b := 'hello'", 0, -1, 345,
            "");
        due("q := {tally right : v := right ; {g := {depth right :  ; 5 :: 'got'} ; {v[1] := 0 rot right iota  same 15} right} x}/ x", 0, -1, 70,
            "");
        due("f := g ; {6 :: u} y", 2, 1, 22,
            "");
        due("q := {1 + 'a'}/ y ; x ; f 1", 5, 0, 29,
            "");
        x = new House();
        due("x := 1 ; y := 2 3 ; z := 'ab' ; w := 3 4 ; a := 2 2 rho 1 0 ; b := 3 ; f := + ; g := , ; y := 'ab' 'cd' 'ab' ; w := 5 ; b := 'hello' ; z := 0 rho enc 1 2 3 ; g := {0 = right : 1 ; right * self right - 1} ; w := enc enc 1 2 ; a := 3 1 2 ; b := 1 0 1 1 ; g := f/ ; f := + ; z := 0 3 rho '' ; x := 2 3 rho iota 6 ; y := 'abc' (1 2) 5 ; z := 2 2 rho 'ab' 1 2 (3 4)", 0, -1, 313,
            "");
        due("w := _4 16 ; ( , 3)[;1;] z ; z :=  fmt ('''aa' b 'c ' 2)", 3, 1, 20,
            "");
        due("g := rho", 0, -1, 3,
            "");
        due("w _3 same@ 0 (a) ; w := 3 _1 27 2 union  split z or x x", 3, 1, 110,
            "[2 2]0 (3 1 2) 0 (3 1 2)\n");
    }

    private static void rows17() {
        x = new House();
        due("w := 2 2 2 rho iota 8 ; z := 0 rho enc 1 2 3 ; w := enc enc 1 2 ; g := rev ; f := {left , right} ; a := 1r2 _3 4 ; x := iota 4 ; f := + ; y := 'ab' 'cd' 'ab' ; g := {0 = right : 1 ; right * self right - 1} ; a := 'q' ; z := 2 2 rho 'ab' 1 2 (3 4) ; b := 1 0 1 1 ; x := 3 0 rho 0", 0, -1, 248,
            "");
        due("(1 x) := (x same  ,[1] 0[3] inter z) ; 3 x b", 3, 0, 9,
            "");
        due("x := x 3 2 w rho (3 w 3 >= y 'czz')", 4, 0, 51,
            "");
        x = new House();
        due("g := f/ ; x := iota 4 ; f := {left , right} ; g := rev ; z := 0 rho enc 1 2 3 ; a := 'q' ; a := 1r2 _3 4 ; x := 3 0 rho 0 ; x := 2 3 rho iota 6 ; g := {0 = right : 1 ; right * self right - 1} ; y := 'ab' 'cd' 'ab'", 2, 0, 3,
            "");
        due("(- b) := (w := 4 2 = y w 65536 1 find 0) w a ; y :=  where 'bcz' b 28", 2, 0, 2,
            "");
        due("x := ('' x 4 _2) max@ b", 2, 0, 2,
            "");
        due("(_2 take w) := b 4 w y", 2, 0, 2,
            "");
        x = new House();
        due("x := 1 ; y := 2 3 ; z := 'ab' ; w := 3 4 ; a := 2 2 rho 1 0 ; b := 3 ; f := + ; g := , ; x := 3 0 rho 0 ; f := + ; y := 'ab' 'cd' 'ab' ; w := 2 2 2 rho iota 8 ; z := 0 rho enc 1 2 3 ; x := iota 4 ; g := {0 = right : 1 ; right * self right - 1} ; a := 'q' ; f := {left , right} ; w := 5 ; z := ''", 0, -1, 210,
            "");
        due("q := x {x :=  mix 123456789 _1 0 part _1 b ; {v := {5 :: 'got' ; (1 take x) := right 26 _2} ; (1 take x) := '' y w _1 ; self 1} left ; 0 :  tr 0 1 '''' ; 1 1 :  enc 2}/ x", 4, 0, 15,
            "");
        due("{f right ; 3 :: f := + ; 1 2 :: right}/ 1 ; x ; f 1", 2, 2, 19,
            "1\n1 2 3 4\n");
        due("{3 4 5 :: v := 9 ; {6 :: u ; f := {u := 3 ; 5 :: v := 9}} 1 ; g := {{1 :: y := 65536 x 'az ' x ! ' ''' or  depth w _1 ; exe 'right'} left}} 2 3 ; x ; f 1", 2, 0, 26,
            "");
        x = new House();
        due("x := 1 ; y := 2 3 ; z := 'ab' ; w := 3 4 ; a := 2 2 rho 1 0 ; b := 3 ; f := + ; g := , ; w := enc enc 1 2 ; a := 1r2 _3 4 ; z := 2 2 rho 'ab' 1 2 (3 4) ; g := f/ ; f := {left , right} ; b := 'hello' ; y := (2 2 rho 1 2 3 4) (enc 1 2) 'a' ; a := 3 1 2 ; z := '' ; x := 2 3 rho iota 6 ; x := iota 4 ; g := {0 = right : 1 ; right * self right - 1} ; a := 'q'", 0, -1, 295,
            "");
        due("(x x) := 1 max 0[ mix 123456789 ''; down z 0 2 5r6;1 0] (4 a 1) b", 3, 0, 52,
            "");
        due(" first x b a ; 'bc b' _2000000000 0r5[1 0] , 4 ((a rho  uniq _1r1[0;1 a;'''az'] 4 _2))", 3, 1, 54,
            "1 2 3 4\n");
        due("0 'bb''' (b[1 1] := b max 3 pick '''' 2000000000 _4)[2 0]", 5, 0, 30,
            "");
        x = new House();
        due("x := 1 ; y := 2 3 ; z := 'ab' ; w := 3 4 ; a := 2 2 rho 1 0 ; b := 3 ; f := + ; g := , ; f := {right} ; x := 3 0 rho 0 ; a := 'q' ; b := 1 0 1 1 ; z := 0 3 rho '' ; f := {left , right} ; b := 'hello' ; f := + ; z := '' ; w := 5 ; y := 'abc' (1 2) 5", 0, -1, 149,
            "");
        due("where 3 7 rho 0 1", 0, -1, 89,
            "(1 2) (1 4) (1 6) (2 1) (2 3) (2 5) (2 7) (3 2) (3 4) (3 6)\n");
        due("10 rho _4", 0, -1, 17,
            "_4 _4 _4 _4 _4 _4 _4 _4 _4 _4\n");
        due("x := enc enc enc y ; enc enc enc enc x ; enc enc enc enc enc enc x", 7, 1, 176,
            "");
        x = new House();
        due("x := 1 ; y := 2 3 ; z := 'ab' ; w := 3 4 ; a := 2 2 rho 1 0 ; b := 3 ; f := + ; g := , ; g := f/ ; f := {right} ; w := 5 ; a := 'q' ; x := 2 3 rho iota 6 ; y := 'abc' (1 2) 5 ; f := + ; y := 'ab' 'cd' 'ab' ; x := 3 0 rho 0", 0, -1, 176,
            "");
        due("x :=  enl 0 3 * 8r5 '' tr 2", 4, 0, 12,
            "");
        due("(0 2 0 (x 'zc''' rep z _4 'c')) '''b' lcm  enl ( ! 'za')", 5, 0, 7,
            "");
        x = new House();
        due("x := 1 ; y := 2 3 ; z := 'ab' ; w := 3 4 ; a := 2 2 rho 1 0 ; b := 3 ; f := + ; g := , ; f := + ; x := iota 4 ; x := 3 0 rho 0 ; b := 1 0 1 1 ; w := enc enc 1 2 ; a := 3 1 2 ; x := 2 3 rho iota 6 ; g := rev ; w := 2 2 2 rho iota 8 ; g := {0 = right : 1 ; right * self right - 1}", 0, -1, 232,
            "");
        x.h.set(0, 1);
        due("y :=  {(y x) := 'bb '} 'ca' drop w 'aczc' 0 ^ z 1r2000000000 z", 3, 0, 54,
            "");
        due("z := b | := x % b", 3, 0, 16,
            "");
        x = new House();
        due("x := 1 ; y := 2 3 ; z := 'ab' ; w := 3 4 ; a := 2 2 rho 1 0 ; b := 3 ; f := + ; g := , ; g := rev ; g := f/ ; x := 3 0 rho 0 ; b := 1 0 1 1 ; z := 0 3 rho '' ; w := enc enc 1 2 ; z := '' ; w := 5 ; x := 2 3 rho iota 6 ; z := 2 2 rho 'ab' 1 2 (3 4) ; z := 0 rho enc 1 2 3 ; g := {0 = right : 1 ; right * self right - 1}", 0, -1, 261,
            "");
        due(" uniq  same y ,@ a ; (a) := a _3[_1 1;2] a 0 = ( where y y (_0 % 1 1) 1 iota  ! 1 a _4)[3] z 2 ; exe '''''''aa'' g  same  tally _8r5 (w z ? 2)'", 3, 0, 160,
            "");
        due("(rev z) := 4 a ?  ?/ 6r4 w ( not 4 1) 4", 5, 0, 11,
            "");
        x = new House();
        due("x := 1 ; y := 2 3 ; z := 'ab' ; w := 3 4 ; a := 2 2 rho 1 0 ; b := 3 ; f := + ; g := , ; x := iota 4 ; g := f/ ; a := 1r2 _3 4 ; w := 2 2 2 rho iota 8 ; b := 'hello' ; z := 0 3 rho '' ; f := {left , right} ; a := 3 1 2 ; b := 1 0 1 1 ; a := 'q' ; y := 'ab' 'cd' 'ab'", 0, -1, 212,
            "");
        due("4 _2 a b (?@) _3 w enco _1 23 8 + z ; z := 3[1;1 3]", 3, 0, 14,
            "");
        due("a 1 { split 3 2000000000}~ _3 {4} (3) _4", 0, -1, 47,
            "(3 2000000000)\n");
        due("_3 13 and (w lcm x[2 1] := x w pick ( not b '' _3r2)[])", 5, 0, 22,
            "");
        x = new House();
        due("x := 1 ; y := 2 3 ; z := 'ab' ; w := 3 4 ; a := 2 2 rho 1 0 ; b := 3 ; f := + ; g := , ; y := (2 2 rho 1 2 3 4) (enc 1 2) 'a' ; b := 1 0 1 1 ; a := 1r2 _3 4 ; y := 'abc' (1 2) 5 ; a := 'q' ; x := 3 0 rho 0 ; x := 2 3 rho iota 6 ; g := f/ ; a := 3 1 2 ; g := {0 = right : 1 ; right * self right - 1} ; f := {right} ; z := ''", 0, -1, 248,
            "");
        due("{x :  ; x[1] := (1 'a''' take y 'c' 3 _4) lcm ( a) := 0 right rot/ 'c''' ; 0 :: f := + ; 4 :: } 1 ; v", 4, 0, 7,
            "");
        due("q := {{7 :: f := +} x ; right : v := right ; 7 :: u} 2 3", 2, 0, 22,
            "");
        due("f := g ; 1 {1 4 take 2 without 3 z - (3 'a') y ; 1 2 :: v ; 6 :: right ; 7r5 mem  mix z 27 expand (y 0 1)}/ 0 ; x ; f 1", 3, 1, 12,
            "");
    }

    private static void rows18() {
        x = new House();
        due("x := 1 ; y := 2 3 ; z := 'ab' ; w := 3 4 ; a := 2 2 rho 1 0 ; b := 3 ; f := + ; g := , ; x := iota 4 ; w := enc enc 1 2 ; z := '' ; z := 2 2 rho 'ab' 1 2 (3 4) ; y := 'abc' (1 2) 5 ; y := 'ab' 'cd' 'ab' ; f := {right} ; x := 3 0 rho 0 ; a := 3 1 2 ; a := 'q' ; b := 1 0 1 1 ; y := (2 2 rho 1 2 3 4) (enc 1 2) 'a'", 0, -1, 304,
            "");
        due("b :=  * 9r1 0 ; 1[1 3] % 1 ( enc  %  fmt (y find x z ' ')) 'c'", 5, 1, 77,
            "");
        due("a[3;0 1;] :=  max ' ' '' x (part) (2 |  first x ' b'''[3 0] 2 w)", 6, 0, 15,
            "");
        due("(b y) := _4r2 ( !  floor 4 'aa') ; z[123456789 3;] := 1 a b f 4", 5, 0, 15,
            "");
        x = new House();
        due("x := 1 ; y := 2 3 ; z := 'ab' ; w := 3 4 ; a := 2 2 rho 1 0 ; b := 3 ; f := + ; g := , ; z := 2 2 rho 'ab' 1 2 (3 4) ; g := {0 = right : 1 ; right * self right - 1} ; f := {right} ; y := 'abc' (1 2) 5 ; g := f/ ; y := (2 2 rho 1 2 3 4) (enc 1 2) 'a' ; y := 'ab' 'cd' 'ab' ; z := '' ; x := 3 0 rho 0", 0, -1, 243,
            "");
        due("q := 1 {1 + 'a'} 1 ; v", 5, 0, 15,
            "");
        due("f := g ; x {2 :: f := + ; f 1 ; depth right : self 0} y", 7, 1, 83,
            "");
        x = new House();
        due("f := + ; f := {left , right} ; z := '' ; x := iota 4 ; g := f/ ; b := 'hello' ; w := 2 2 2 rho iota 8 ; a := 'q' ; b := 1 0 1 1 ; g := rev ; y := (2 2 rho 1 2 3 4) (enc 1 2) 'a' ; f := {right} ; z := 0 3 rho '' ; a := 3 1 2 ; z := 2 2 rho 'ab' 1 2 (3 4) ; w := enc enc 1 2", 0, -1, 267,
            "");
        due("z := (z)[0;3 2] 2 { rho 4} a", 6, 0, 23,
            "");
        due("g := union ; b := _0 +/ (x y y (z % '')) y 'ca' '''''' ; b :=  tally (w 1 0 'c' fmt z) 1r6", 3, 1, 21,
            "");
        x = new House();
        due("x := 1 ; y := 2 3 ; z := 'ab' ; w := 3 4 ; a := 2 2 rho 1 0 ; b := 3 ; f := + ; g := , ; w := 2 2 2 rho iota 8 ; a := 1r2 _3 4 ; y := 'abc' (1 2) 5 ; f := {left , right} ; a := 3 1 2 ; w := 5 ; x := iota 4 ; z := 2 2 rho 'ab' 1 2 (3 4) ; f := +", 0, -1, 229,
            "");
        due("1[3] 0 *@ 1001 >= _2 (( not 5)) ( enl 3 3)", 5, 0, 18,
            "");
        due("(3 4 - 4 ^ (w a without 3 w 3 4)) 3 2 b", 0, -1, 80,
            "((_61 _1 _13) (_60 0 _12)) 3 2 3\n");
        x = new House();
        due("x := 1 ; y := 2 3 ; z := 'ab' ; w := 3 4 ; a := 2 2 rho 1 0 ; b := 3 ; f := + ; g := , ; z := 0 rho enc 1 2 3 ; x := 2 3 rho iota 6 ; z := '' ; z := 2 2 rho 'ab' 1 2 (3 4) ; f := {right} ; f := {left , right} ; g := {0 = right : 1 ; right * self right - 1} ; y := (2 2 rho 1 2 3 4) (enc 1 2) 'a' ; a := 'q'", 0, -1, 256,
            "");
        x.h.set(0, 0);
        due("q := 1 {1 1 :  ; tally right :  enl  enc ( rev 6r4 2 999 6r6) ; g := {4 :: 2 3 4 max z '''' (0) ; 1 :: 'got'}} 1", 4, 0, 13,
            "");
        x.h.set(0, 0);
        x = new House();
        due("x := 1 ; y := 2 3 ; z := 'ab' ; w := 3 4 ; a := 2 2 rho 1 0 ; b := 3 ; f := + ; g := , ; z := 2 2 rho 'ab' 1 2 (3 4) ; b := 1 0 1 1 ; w := enc enc 1 2 ; y := 'abc' (1 2) 5 ; f := {right} ; g := rev ; b := 'hello' ; z := 0 rho enc 1 2 3 ; w := 5", 0, -1, 225,
            "");
        due("q := {( split w (b) 17) 1} 2 3 ; v", 2, 1, 79,
            "");
        x.h.set(0, 1);
        due("q := {0 :: v := 9 ; 3 4 5 :: right ; x , := ( rev 0 'a')}/ x", 0, -1, 9,
            "");
        x = new House();
        due("x := 1 ; y := 2 3 ; z := 'ab' ; w := 3 4 ; a := 2 2 rho 1 0 ; b := 3 ; f := + ; g := , ; a := 'q' ; y := 'abc' (1 2) 5 ; g := {0 = right : 1 ; right * self right - 1} ; y := 'ab' 'cd' 'ab' ; g := f/ ; y := (2 2 rho 1 2 3 4) (enc 1 2) 'a' ; w := 5 ; a := 1r2 _3 4 ; z := 0 3 rho '' ; f := {left , right}", 0, -1, 208,
            "");
        due("['' {y} rank] rho rank", 1, 0, 2,
            "");
        due("''", 0, -1, 2,
            "\n");
        x = new House();
        due("x := 1 ; y := 2 3 ; z := 'ab' ; w := 3 4 ; a := 2 2 rho 1 0 ; b := 3 ; f := + ; g := , ; y := 'ab' 'cd' 'ab' ; w := 5 ; a := 'q' ; g := {0 = right : 1 ; right * self right - 1} ; f := {left , right} ; x := 2 3 rho iota 6 ; a := 1r2 _3 4 ; f := {right} ; z := '' ; g := rev ; y := 'abc' (1 2) 5 ; z := 0 rho enc 1 2 3", 0, -1, 212,
            "");
        due("x {right lcm 0[1] ; y drop 4[;right] x { same 3;f := enco; same x 7r3} _2 ( not b expand y _2000000000 0 y expand _3 2 0) b z}\" 1", 3, 0, 28,
            "");
        due("1 {3 4 5 :: u ; {f := right ! 0 rho 1 15 < 18 (1001 2 0 0 mem _2 3 right) ; v := right ''} right} 0 ; v", 2, 0, 98,
            "");
        x = new House();
        due("x := 1 ; y := 2 3 ; z := 'ab' ; w := 3 4 ; a := 2 2 rho 1 0 ; b := 3 ; f := + ; g := , ; y := 'ab' 'cd' 'ab' ; b := 'hello' ; x := 3 0 rho 0 ; y := (2 2 rho 1 2 3 4) (enc 1 2) 'a' ; z := 2 2 rho 'ab' 1 2 (3 4) ; x := iota 4 ; g := rev ; g := f/ ; w := enc enc 1 2 ; a := 3 1 2 ; g := {0 = right : 1 ; right * self right - 1}", 0, -1, 274,
            "");
        due("right /= [rank 1]", 1, 0, 3,
            "");
        due("rank + rank +", 1, 0, 3,
            "");
        due("+ {[+ pow 2 (f) + right]}", 1, 0, 3,
            "");
        x = new House();
        due("x := 1 ; y := 2 3 ; z := 'ab' ; w := 3 4 ; a := 2 2 rho 1 0 ; b := 3 ; f := + ; g := , ; y := 'ab' 'cd' 'ab' ; a := 3 1 2 ; x := 3 0 rho 0 ; z := '' ; z := 0 3 rho '' ; g := rev ; y := (2 2 rho 1 2 3 4) (enc 1 2) 'a' ; w := 2 2 2 rho iota 8 ; f := {left , right} ; x := 2 3 rho iota 6 ; x := iota 4 ; z := 0 rho enc 1 2 3 ; a := 'q' ; f := +", 0, -1, 326,
            "");
        due("{right} x +", 1, 0, 3,
            "");
        due("foo (+)", 2, 0, 4,
            "");
        due("(mix [\\] (+) x[1])", 1, 0, 14,
            "");
    }

    private static void rows19() {
        x = new House();
        due("x := 1 ; y := 2 3 ; z := 'ab' ; w := 3 4 ; a := 2 2 rho 1 0 ; b := 3 ; f := + ; g := , ; f := {right} ; z := 0 rho enc 1 2 3 ; x := 2 3 rho iota 6 ; a := 1r2 _3 4 ; g := {0 = right : 1 ; right * self right - 1} ; w := enc enc 1 2 ; b := 1 0 1 1 ; x := 3 0 rho 0 ; z := '' ; g := f/ ; z := 0 3 rho '' ; f := +", 0, -1, 221,
            "");
        due("f := g ; x {3 4 5 :: 'got' ; 5 :: v ; 1 :: x} x ; v", 2, 1, 22,
            "");
        x.h.set(0, 1);
        due("x {x := w a 0 * left[] ; f := {2 :: u ; exe 'v ; u'} ; v := 'z' left ? 1 123456789 4 0 ,[(enc 1 2)] 6 ; {1 + 'a' ; 5 :: f := + ; exe '1 +' ; u := _4 take 8} left}\" x ; v", 2, 1, 8,
            "[3 0]\n");
        x = new House();
        due("x := 1 ; y := 2 3 ; z := 'ab' ; w := 3 4 ; a := 2 2 rho 1 0 ; b := 3 ; f := + ; g := , ; a := 1r2 _3 4 ; z := 0 3 rho '' ; b := 'hello' ; w := enc enc 1 2 ; x := 3 0 rho 0 ; w := 5 ; z := 2 2 rho 'ab' 1 2 (3 4) ; y := 'abc' (1 2) 5 ; z := '' ; x := iota 4", 0, -1, 223,
            "");
        due("65536", 0, -1, 2,
            "65536\n");
        due("y[3 w _2 z] _1", 5, 0, 24,
            "");
        due("w := 123456789 take@ (x =  split 4 'zb' w y) z drop b :=  {} 0 a", 2, 0, 16,
            "");
        x = new House();
        due("x := 1 ; y := 2 3 ; z := 'ab' ; w := 3 4 ; a := 2 2 rho 1 0 ; b := 3 ; f := + ; g := , ; f := {right} ; f := + ; z := 0 rho enc 1 2 3 ; w := 2 2 2 rho iota 8 ; b := 'hello' ; g := f/ ; y := 'abc' (1 2) 5 ; z := 0 3 rho '' ; g := rev ; x := 2 3 rho iota 6 ; x := 3 0 rho 0", 0, -1, 249,
            "");
        due("4r3 ^  uniq  up ('' 4)", 0, -1, 26,
            "16r9 4r3\n");
        x.h.set(0, 0);
        due(" f x[;0] (2) ; a w z", 6, 0, 7,
            "");
        x = new House();
        due("x := 1 ; y := 2 3 ; z := 'ab' ; w := 3 4 ; a := 2 2 rho 1 0 ; b := 3 ; f := + ; g := , ; f := {right} ; x := iota 4 ; y := 'ab' 'cd' 'ab' ; w := enc enc 1 2 ; z := 2 2 rho 'ab' 1 2 (3 4) ; a := 'q' ; w := 5", 0, -1, 183,
            "");
        due("{exe 'self 0' ; f := {1 1 : self 0}}/ x", 7, 0, 308,
            "");
        due("q := {f := {v[1] := b right b 0r5 % _8r3 65536 <=  % (2 a and _3 4 3) 2r4 (b := 4 500 _3 right > _2) b ; x[1] := 1 9r2 (b _2000000000 18)} ; 1 + 'a'}/ 1 ; v", 2, 1, 11,
            "");
        x = new House();
        due("x := 1 ; y := 2 3 ; z := 'ab' ; w := 3 4 ; a := 2 2 rho 1 0 ; b := 3 ; f := + ; g := , ; z := 0 rho enc 1 2 3 ; g := {0 = right : 1 ; right * self right - 1} ; y := 'ab' 'cd' 'ab' ; x := iota 4 ; f := {right} ; g := f/ ; a := 1r2 _3 4 ; x := 3 0 rho 0 ; a := 'q' ; z := 0 3 rho '' ; b := 1 0 1 1 ; w := enc enc 1 2 ; g := rev ; a := 3 1 2 ; f := {left , right}", 0, -1, 235,
            "");
        due("{x : u ; g x ; x[1] := 'b' _4 mix z := z _1 w iota 7 (3r2 left)} 2 3 ; x ; f 1", 4, 0, 11,
            "");
        due("1 {right : self 0 ; 0 :: x ; f := 0 ('c') ; exe 'v ; u'} 0", 0, -1, 32,
            "[3 0]\n");
        due("q := {1 1 : f := +}/ x ; v", 5, 0, 6,
            "");
        x = new House();
        due("x := 1 ; y := 2 3 ; z := 'ab' ; w := 3 4 ; a := 2 2 rho 1 0 ; b := 3 ; f := + ; g := , ; z := '' ; w := 5 ; x := 2 3 rho iota 6 ; x := 3 0 rho 0 ; y := (2 2 rho 1 2 3 4) (enc 1 2) 'a' ; x := iota 4 ; f := {left , right} ; g := f/ ; y := 'ab' 'cd' 'ab'", 0, -1, 221,
            "");
        x.h.set(0, 0);
        due("{n0 := 0; n1 := 1; n2 := 2; n3 := 3; n4 := 4; n5 := 5; n6 := 6; n7 := 7; n8 := 8; n9 := 9; n10 := 10; n11 := 11; n12 := 12; n13 := 13; n14 := 14; n15 := 15; n16 := 16; n17 := 17; n18 := 18; n19 := 19; n20 := 20 ; 5} 1", 7, 0, 88,
            "");
        due("{{{{{right}}}}} 1", 1, 0, 7,
            "");
        x = new House();
        due("x := 1 ; y := 2 3 ; z := 'ab' ; w := 3 4 ; a := 2 2 rho 1 0 ; b := 3 ; f := + ; g := , ; z := '' ; w := 2 2 2 rho iota 8 ; a := 3 1 2 ; y := 'ab' 'cd' 'ab' ; g := {0 = right : 1 ; right * self right - 1} ; z := 2 2 rho 'ab' 1 2 (3 4) ; g := rev ; x := 3 0 rho 0 ; a := 'q' ; f := {left , right}", 0, -1, 220,
            "");
        due("drop (0 'z' a z penc 7)", 4, 0, 34,
            "");
        due("*/ 20 rho _3", 7, 0, 126,
            "");
        x.h.set(0, 0);
        x = new House();
        due("x := 1 ; y := 2 3 ; z := 'ab' ; w := 3 4 ; a := 2 2 rho 1 0 ; b := 3 ; f := + ; g := , ; b := 1 0 1 1 ; x := 3 0 rho 0 ; y := 'ab' 'cd' 'ab' ; g := {0 = right : 1 ; right * self right - 1} ; w := enc enc 1 2 ; w := 2 2 2 rho iota 8 ; a := 3 1 2 ; b := 'hello' ; f := {right} ; z := 2 2 rho 'ab' 1 2 (3 4) ; f := {left , right} ; z := 0 3 rho ''", 0, -1, 272,
            "");
        due("(a) 4 ( first 2) > y 15 (0 y 0 rot[2] 11) y min b '' ( | a[3] z '') ; z :=  fmt (4 1 y ' ') 'cc' y rho ( enc 3) 4 w ( enl 4 20) ? (x :=  rev  mix _4) _4 ; '''' b", 6, 0, 71,
            "");
        due("y[('''z' _5r2) >=\" 7 b 0 ''' za' penc 'c' * (2 (x :=  uniq 3) 4 0)] :=  { rho 2[] ( drop 'z' '' w 'z ''') _2 (0 11 enco a 3 x 0);(same x) := z;y and := 2 0 b 12} b ;  down 4 expand 'a'", 5, 0, 38,
            "");
        due("' ' z[4 4 z a;1] 4 g 1 ; w y < 0 b", 5, 0, 27,
            "");
        x = new House();
        due("x := 1 ; y := 2 3 ; z := 'ab' ; w := 3 4 ; a := 2 2 rho 1 0 ; b := 3 ; f := + ; g := , ; w := 2 2 2 rho iota 8 ; f := + ; x := iota 4 ; b := 1 0 1 1 ; a := 1r2 _3 4 ; g := f/ ; f := {left , right} ; z := 2 2 rho 'ab' 1 2 (3 4) ; a := 3 1 2", 0, -1, 219,
            "");
        due("y := ( % 4 - 1 ^ (z 1 >= x))", 4, 0, 32,
            "");
        due("(z z x) := ' '", 0, -1, 6,
            "");
        x = new House();
        due("x := 1 ; y := 2 3 ; z := 'ab' ; w := 3 4 ; a := 2 2 rho 1 0 ; b := 3 ; f := + ; g := , ; a := 3 1 2 ; w := enc enc 1 2 ; b := 1 0 1 1 ; f := {left , right} ; a := 1r2 _3 4 ; z := 0 rho enc 1 2 3 ; f := + ; w := 5 ; g := rev ; z := 2 2 rho 'ab' 1 2 (3 4)", 0, -1, 217,
            "");
        due("g := mix ; f := {_2 left tr x 19 _3 tr key w\n(x iota :=  up 2 ! 0 , 0 z)\n2 :: right[ not z 'z'] 2 2 4} ; 65536 | _4 ! . find 0 1", 0, -1, 39,
            "1\n");
        due("w[2 0] := 1[0;3 2]", 3, 0, 12,
            "");
    }

    private static void rows20() {
        x = new House();
        due("x := 1 ; y := 2 3 ; z := 'ab' ; w := 3 4 ; a := 2 2 rho 1 0 ; b := 3 ; f := + ; g := , ; x := 2 3 rho iota 6 ; z := 0 rho enc 1 2 3 ; w := enc enc 1 2 ; a := 1r2 _3 4 ; w := 2 2 2 rho iota 8", 0, -1, 216,
            "");
        due("{(nope) := := rev f} rho", 1, 0, 3,
            "");
        x.h.set(0, 0);
        due("{1r2 (self self self ~ pow 2) +} foo", 2, 0, 2,
            "");
        x = new House();
        due("x := 1 ; y := 2 3 ; z := 'ab' ; w := 3 4 ; a := 2 2 rho 1 0 ; b := 3 ; f := + ; g := , ; a := 'q' ; z := '' ; x := 3 0 rho 0 ; x := iota 4 ; g := {0 = right : 1 ; right * self right - 1} ; b := 'hello' ; a := 3 1 2 ; g := f/ ; w := enc enc 1 2 ; f := {left , right} ; f := {right} ; z := 0 rho enc 1 2 3", 0, -1, 184,
            "");
        due("a := 0 _2 | 24 ; 2[0; depth 4r6 3;] {1 = right : _1 mem b}  % _6r1 a 2 ; a 0 drop 3 ' z' 'zbbz' 1", 5, 1, 33,
            "");
        due(" % 2 (match)~ y", 5, 0, 19,
            "");
        due("w take := ((' ' a 500 1)) ('z''c') 4[]", 3, 0, 4,
            "");
        x = new House();
        due("x := 1 ; y := 2 3 ; z := 'ab' ; w := 3 4 ; a := 2 2 rho 1 0 ; b := 3 ; f := + ; g := , ; a := 'q' ; w := enc enc 1 2 ; b := 1 0 1 1 ; y := (2 2 rho 1 2 3 4) (enc 1 2) 'a' ; f := {right} ; z := 0 rho enc 1 2 3 ; y := 'ab' 'cd' 'ab' ; g := rev ; y := 'abc' (1 2) 5 ; z := '' ; z := 0 3 rho '' ; x := 3 0 rho 0", 0, -1, 276,
            "");
        due("q := 1 {100 'a' ; tally right : u ; x[1] := 'b' x} 1 ; x ; f 1", 0, -1, 28,
            "[3 0]\n1\n");
        due("{'bz''c' 28 3 13 without ( split 5r6 x) ; {exe 'v ; u' ; _5r1 1 ,[3] (_3 2 4 <= b) 17 ; f :=  enl 1} left} x ; x ; f 1", 0, -1, 69,
            "(bz'c) 28 3 13\n[3 0]\n1\n");
        due("q := {exe 'v ; u' ; 0 = right : u} y", 2, 0, 24,
            "");
        x = new House();
        due("x := 1 ; y := 2 3 ; z := 'ab' ; w := 3 4 ; a := 2 2 rho 1 0 ; b := 3 ; f := + ; g := , ; y := 'abc' (1 2) 5 ; z := 0 rho enc 1 2 3 ; z := 2 2 rho 'ab' 1 2 (3 4) ; g := {0 = right : 1 ; right * self right - 1} ; b := 'hello' ; w := enc enc 1 2 ; g := f/ ; a := 'q' ; x := 2 3 rho iota 6 ; b := 1 0 1 1 ; w := 5", 0, -1, 269,
            "");
        due("f := expand[5r2] ; ( ! 4) > (x 'z')[y ! w] ( first 3 x) '' _3 enco 3 7r2 ; 'a' 1 _9r2 0[;2 > 0] drop b", 5, 1, 47,
            "");
        due("z w z y drop x ' ' x > 13[1000 w ? 15; ! w;b 20 _3 | _1] ;  g (y b) _3 ( tally ' cca' x _2 w) expand . ? ( mix 8r4) b 46341 0 ^ b", 4, 0, 44,
            "");
        x = new House();
        due("x := 1 ; y := 2 3 ; z := 'ab' ; w := 3 4 ; a := 2 2 rho 1 0 ; b := 3 ; f := + ; g := , ; w := 2 2 2 rho iota 8 ; f := + ; w := 5 ; w := enc enc 1 2 ; z := 2 2 rho 'ab' 1 2 (3 4) ; y := (2 2 rho 1 2 3 4) (enc 1 2) 'a' ; y := 'ab' 'cd' 'ab' ; z := 0 rho enc 1 2 3 ; a := 'q' ; z := '' ; y := 'abc' (1 2) 5 ; b := 'hello'", 0, -1, 347,
            "");
        due(" first _4 ; b := _1 z b <= _4[3;0 1;3] (4 '')", 3, 1, 25,
            "_4\n");
        due("z := 2 ; a (a 'c ' 11 >= 1) w y", 5, 1, 25,
            "");
        x = new House();
        due("x := 1 ; y := 2 3 ; z := 'ab' ; w := 3 4 ; a := 2 2 rho 1 0 ; b := 3 ; f := + ; g := , ; z := 2 2 rho 'ab' 1 2 (3 4) ; g := f/ ; f := + ; w := 2 2 2 rho iota 8 ; y := 'ab' 'cd' 'ab' ; y := 'abc' (1 2) 5 ; a := 3 1 2 ; f := {right} ; x := 2 3 rho iota 6 ; y := (2 2 rho 1 2 3 4) (enc 1 2) 'a' ; b := 'hello'", 0, -1, 334,
            "");
        x.h.set(0, 1);
        due(" where _4 4", 5, 0, 9,
            "");
        due("a := 3 - (1) (0 z penc 2) (0 3 8 0) ''''", 4, 0, 38,
            "");
        x = new House();
        due("x := 1 ; y := 2 3 ; z := 'ab' ; w := 3 4 ; a := 2 2 rho 1 0 ; b := 3 ; f := + ; g := , ; y := 'abc' (1 2) 5 ; x := iota 4 ; a := 'q' ; w := 2 2 2 rho iota 8 ; f := {right} ; a := 1r2 _3 4 ; f := + ; z := 2 2 rho 'ab' 1 2 (3 4)", 0, -1, 218,
            "");
        due("y 0 gcd 3 a f y 3", 5, 0, 39,
            "");
        due("(+/ y) := 'ac' '''' 0 'a' ; b[2 2; tally 0r5 4 4 4;] :=  enc 1 _6r4 ; _4", 5, 0, 33,
            "");
        due("b := 1r2000000000", 0, -1, 4,
            "");
        x = new House();
        due("x := 1 ; y := 2 3 ; z := 'ab' ; w := 3 4 ; a := 2 2 rho 1 0 ; b := 3 ; f := + ; g := , ; x := iota 4 ; b := 1 0 1 1 ; g := rev ; w := enc enc 1 2 ; a := 1r2 _3 4 ; a := 'q' ; g := f/ ; z := 0 3 rho '' ; z := '' ; f := {left , right} ; w := 5 ; z := 0 rho enc 1 2 3", 0, -1, 190,
            "");
        due("w :=  split (y 4 ''[1 3]) a rho y 2 1", 6, 0, 20,
            "");
        due(" rot[2]  {(- a) := a 4 ^ _2 'z' w;1 2 :: 'a''z' 6 tr (_1 4 depth 17 1)} (z union _1 ,[1 2] . max b gcd _4 ( inter (' ''  ' y same a 2 w) 500)) ; a := _1 0", 1, 0, 43,
            "");
        x = new House();
        due("x := 1 ; y := 2 3 ; z := 'ab' ; w := 3 4 ; a := 2 2 rho 1 0 ; b := 3 ; f := + ; g := , ; x := 3 0 rho 0 ; w := enc enc 1 2 ; b := 'hello' ; y := (2 2 rho 1 2 3 4) (enc 1 2) 'a' ; y := 'ab' 'cd' 'ab' ; f := {left , right} ; y := 'abc' (1 2) 5 ; g := f/ ; z := 0 rho enc 1 2 3 ; g := rev ; f := + ; w := 2 2 2 rho iota 8", 0, -1, 309,
            "");
        due("q := x {{v + := 8 ; 3 :: f := +} x ; 0 : f := + ; (1 take x) := (3 penc z) ; v := {5 :: f := + ; exe 'v := 3'}} x", 2, 0, 13,
            "");
        due("q := {0 = right : '' left deco _4 'b' ; 3 'c' <= rank _2r4 5r6 ( !  floor 1)} x ; x ; f 1", 4, 0, 11,
            "");
        x = new House();
        due("x := 1 ; y := 2 3 ; z := 'ab' ; w := 3 4 ; a := 2 2 rho 1 0 ; b := 3 ; f := + ; g := , ; a := 'q' ; y := 'ab' 'cd' 'ab' ; a := 1r2 _3 4 ; f := + ; z := 0 3 rho '' ; b := 'hello' ; b := 1 0 1 1 ; y := 'abc' (1 2) 5 ; w := enc enc 1 2", 0, -1, 184,
            "");
        due("+ iota ({x[1]} foo + [@] #c) [pow 2 + (+ left) (x)]", -17, -1, 0,
            "");
        due("[~ [(+)] (/ +)] +", 1, 0, 5,
            "");
    }

    private static void rows21() {
        x = new House();
        due("x := 1 ; y := 2 3 ; z := 'ab' ; w := 3 4 ; a := 2 2 rho 1 0 ; b := 3 ; f := + ; g := , ; z := '' ; x := iota 4 ; x := 2 3 rho iota 6 ; z := 0 3 rho '' ; f := {left , right} ; z := 0 rho enc 1 2 3 ; x := 3 0 rho 0 ; f := {right} ; b := 1 0 1 1 ; a := 'q' ; w := 2 2 2 rho iota 8 ; g := rev ; y := 'abc' (1 2) 5 ; z := 2 2 rho 'ab' 1 2 (3 4)", 0, -1, 321,
            "");
        due("iota 10 0 1", 0, -1, 16,
            "[10 0 1]\n");
        due("1000 rho y", 7, 0, 14,
            "");
        due("(1 rho x)[1][1][1][1][1][1][1][1][1][1][1][1][1][1][1][1][1][1][1][1][1][1][1][1][1][1][1][1][1][1][1][1][1][1][1][1][1][1]", 3, 0, 53,
            "");
        x = new House();
        due("x := 1 ; y := 2 3 ; z := 'ab' ; w := 3 4 ; a := 2 2 rho 1 0 ; b := 3 ; f := + ; g := , ; b := 'hello' ; a := 'q' ; a := 3 1 2 ; y := 'abc' (1 2) 5 ; g := rev ; g := f/ ; z := 2 2 rho 'ab' 1 2 (3 4) ; w := 5 ; a := 1r2 _3 4 ; w := 2 2 2 rho iota 8 ; w := enc enc 1 2 ; f := + ; f := {right}", 0, -1, 261,
            "");
        due("((1 0 1) rep b) :=  g 5[2] b[2 2] (y ' ' rot 28 _5r5 z (b enco 3 1000 0))[3 1]", 5, 0, 24,
            "");
        due("exe 'y b' ; y[2;] := b 3", 3, 1, 52,
            "((abc) (1 2) 5) (hello)\n");
        due("g := tr", 0, -1, 3,
            "");
        x = new House();
        due("x := 1 ; y := 2 3 ; z := 'ab' ; w := 3 4 ; a := 2 2 rho 1 0 ; b := 3 ; f := + ; g := , ; b := 'hello' ; b := 1 0 1 1 ; w := enc enc 1 2 ; z := '' ; w := 5 ; x := iota 4 ; z := 0 3 rho '' ; a := 3 1 2 ; z := 0 rho enc 1 2 3", 0, -1, 183,
            "");
        due("3 4 lcm  enc ' a' 123456789 (3 not b) ; (_1 rot w) := a match :=  fmt 4 ! _4r4 ; z a '''''a'''", 1, 0, 5,
            "");
        due(" ! 3 1 3 x ; f := <= ; b := (0 + 3 z) 18 1 x[3]", 0, -1, 80,
            "6 1 6 (1 2 6 24)\n");
        x = new House();
        due("x := 1 ; y := 2 3 ; z := 'ab' ; w := 3 4 ; a := 2 2 rho 1 0 ; b := 3 ; f := + ; g := , ; a := 'q' ; x := 2 3 rho iota 6 ; a := 1r2 _3 4 ; b := 1 0 1 1 ; f := {left , right} ; f := + ; y := 'abc' (1 2) 5 ; y := 'ab' 'cd' 'ab' ; z := 0 3 rho '' ; x := 3 0 rho 0", 0, -1, 203,
            "");
        due("b ; a deco := 'az' _4", 4, 1, 18,
            "1 0 1 1\n");
        due("y := _3", 0, -1, 4,
            "");
        due("(y b) := _1 b enl z a", 1, 0, 18,
            "");
        x = new House();
        due("x := 1 ; y := 2 3 ; z := 'ab' ; w := 3 4 ; a := 2 2 rho 1 0 ; b := 3 ; f := + ; g := , ; x := 2 3 rho iota 6 ; f := {right} ; a := 'q' ; x := 3 0 rho 0 ; f := + ; x := iota 4 ; b := 'hello' ; f := {left , right}", 0, -1, 144,
            "");
        due("f := ,", 0, -1, 3,
            "");
        due("2 min . /= 1 (4 'z') x 3", 4, 0, 77,
            "");
        x = new House();
        due("x := 1 ; y := 2 3 ; z := 'ab' ; w := 3 4 ; a := 2 2 rho 1 0 ; b := 3 ; f := + ; g := , ; z := '' ; w := 5 ; f := {right} ; w := enc enc 1 2 ; w := 2 2 2 rho iota 8 ; y := 'abc' (1 2) 5 ; g := {0 = right : 1 ; right * self right - 1} ; a := 3 1 2 ; a := 'q' ; g := f/ ; z := 0 rho enc 1 2 3 ; z := 2 2 rho 'ab' 1 2 (3 4) ; g := rev", 0, -1, 278,
            "");
        due("{right , right} pow 10 4", 7, 0, 5180,
            "");
        due("((((((((((((((((((((((((((((((((((((((((((1 + 1))))))))))))))))))))))))))))))))))))))))))", 7, 0, 42,
            "");
        due("x := 1000 rho enc 3 rho 'a'", 7, 0, 28,
            "");
        x = new House();
        due("x := 1 ; y := 2 3 ; z := 'ab' ; w := 3 4 ; a := 2 2 rho 1 0 ; b := 3 ; f := + ; g := , ; g := rev ; a := 1r2 _3 4 ; g := f/ ; z := 2 2 rho 'ab' 1 2 (3 4) ; w := enc enc 1 2 ; x := 3 0 rho 0 ; w := 2 2 2 rho iota 8 ; y := (2 2 rho 1 2 3 4) (enc 1 2) 'a' ; f := {left , right} ; b := 'hello' ; b := 1 0 1 1 ; w := 5 ; f := + ; y := 'ab' 'cd' 'ab'", 0, -1, 330,
            "");
        x.h.set(0, 1);
        due("((((((((((((((((((((((((((((((((((((((((1", -49, -1, 0,
            "");
        x = new House();
        due("x := 1 ; y := 2 3 ; z := 'ab' ; w := 3 4 ; a := 2 2 rho 1 0 ; b := 3 ; f := + ; g := , ; b := 1 0 1 1 ; y := 'ab' 'cd' 'ab' ; a := 'q' ; g := rev ; f := + ; b := 'hello' ; w := 5 ; a := 1r2 _3 4 ; x := 2 3 rho iota 6 ; z := 0 3 rho '' ; z := 2 2 rho 'ab' 1 2 (3 4)", 0, -1, 228,
            "");
        due("(w w y) :=  tally 0[w union z 'a' 1;3;] 'cz'", 3, 0, 60,
            "");
        due("f := (?)", 0, -1, 4,
            "");
        due("2 | _0 ; b[1 '' 3 part  iota  ? w a] := 3 y max 4 ; x := a z %  first  % a", 5, 1, 38,
            "0\n");
        x = new House();
        due("g := {0 = right : 1 ; right * self right - 1} ; w := 2 2 2 rho iota 8 ; w := enc enc 1 2 ; b := 'hello' ; z := 0 3 rho '' ; z := '' ; y := (2 2 rho 1 2 3 4) (enc 1 2) 'a' ; f := {left , right} ; x := 2 3 rho iota 6 ; g := rev", 0, -1, 204,
            "");
        due("{right , right} pow 5 a", 2, 0, 2,
            "");
        due("mix '' ( fmt _4 *  ? 1) , enc 6 333 rho 0", 7, 0, 12,
            "");
        x = new House();
        due("x := 1 ; y := 2 3 ; z := 'ab' ; w := 3 4 ; a := 2 2 rho 1 0 ; b := 3 ; f := + ; g := , ; y := (2 2 rho 1 2 3 4) (enc 1 2) 'a' ; g := {0 = right : 1 ; right * self right - 1} ; b := 'hello' ; b := 1 0 1 1 ; x := iota 4 ; w := 5 ; z := '' ; z := 0 3 rho '' ; a := 3 1 2", 0, -1, 187,
            "");
        due(" ceil  same (0 _3 a x <= 4) ;  iota rank 1 2 ( - b ( enl 1 y) 'a''') ;  fmt _1", 5, 1, 168,
            "1 1 (1 1 1) (1 1 1 1)\n");
        due("w[;;] := a {2 ; 100}  ! 20 x b[2 1;3 2;] 1 lcm _3", 3, 0, 22,
            "");
    }

    private static void rows22() {
        x = new House();
        due("x := 1 ; y := 2 3 ; z := 'ab' ; w := 3 4 ; a := 2 2 rho 1 0 ; b := 3 ; f := + ; g := , ; z := 2 2 rho 'ab' 1 2 (3 4) ; y := 'abc' (1 2) 5 ; x := 3 0 rho 0 ; w := 5 ; a := 'q' ; w := enc enc 1 2 ; f := {left , right} ; y := 'ab' 'cd' 'ab' ; z := '' ; w := 2 2 2 rho iota 8 ; a := 3 1 2 ; b := 1 0 1 1 ; f := +", 0, -1, 286,
            "");
        due("(b) := 3 rho w :=  iota  , _3['''' 4 lcm x; enl a 3 x]", 3, 0, 31,
            "");
        due("(y z w) := 16 part 'b' 11 ; ( up a[z max 3;0 0]) /= z b ;  {x := w right match  rev[(enc 1 2)] 25} _2 without  rev[2] ((2 3 4 17 >=  ?  down (_2 _2 3) y)) 4", 4, 0, 12,
            "");
        x = new House();
        due("x := 1 ; y := 2 3 ; z := 'ab' ; w := 3 4 ; a := 2 2 rho 1 0 ; b := 3 ; f := + ; g := , ; z := '' ; f := {left , right} ; x := iota 4 ; g := rev ; w := 2 2 2 rho iota 8 ; f := + ; x := 2 3 rho iota 6 ; y := (2 2 rho 1 2 3 4) (enc 1 2) 'a' ; f := {right}", 0, -1, 235,
            "");
        due("2r2 % 1 2 same b ;  same 1[3]", 3, 1, 24,
            "1r3\n");
        due("x[2] := y ;  split b _2 ; (x) := (1 3 gcd  down 4r6) x", 3, 0, 4,
            "");
        due(" ,[1] b", 1, 0, 4,
            "");
        x = new House();
        due("x := 1 ; y := 2 3 ; z := 'ab' ; w := 3 4 ; a := 2 2 rho 1 0 ; b := 3 ; f := + ; g := , ; a := 1r2 _3 4 ; w := 2 2 2 rho iota 8 ; a := 3 1 2 ; x := 3 0 rho 0 ; x := 2 3 rho iota 6 ; a := 'q' ; f := + ; y := 'abc' (1 2) 5 ; g := {0 = right : 1 ; right * self right - 1}", 0, -1, 215,
            "");
        due("enc pow 4 21", 0, -1, 20,
            "21\n");
        due("7 -/[2] 6 4 rho iota 20", 4, 0, 107,
            "");
        due("100 40 rho 1", 7, 0, 11,
            "");
        x = new House();
        due("x := 1 ; y := 2 3 ; z := 'ab' ; w := 3 4 ; a := 2 2 rho 1 0 ; b := 3 ; f := + ; g := , ; x := 3 0 rho 0 ; b := 1 0 1 1 ; g := rev ; a := 3 1 2 ; g := f/ ; w := 5 ; f := {left , right} ; y := 'ab' 'cd' 'ab' ; f := + ; z := 2 2 rho 'ab' 1 2 (3 4) ; f := {right} ; w := enc enc 1 2 ; w := 2 2 2 rho iota 8 ; a := 1r2 _3 4 ; a := 'q'", 0, -1, 280,
            "");
        due("q := {7 :: u ; (1 take x) := a !  | '''z' _4 a same x w 0 ; 4 :: left ; 0 :: f := +} 1 ; v", 5, 0, 100,
            "");
        due("{f := ( ! (2 4 match w 1r2000000000)) ; v := {0 :  ; x :=  rev _1 ; g v ; {5 :: v ; 1 + 'a'} 1} ; (1 take x) := (( down '') 2 2 y) a[;3 3] 4 ; exe 'f := +'} 1", 3, 0, 59,
            "");
        x = new House();
        due("x := 1 ; y := 2 3 ; z := 'ab' ; w := 3 4 ; a := 2 2 rho 1 0 ; b := 3 ; f := + ; g := , ; a := 'q' ; f := {right} ; a := 1r2 _3 4 ; w := enc enc 1 2 ; z := 2 2 rho 'ab' 1 2 (3 4) ; z := 0 3 rho '' ; g := f/ ; a := 3 1 2 ; f := + ; x := iota 4 ; b := 1 0 1 1", 0, -1, 211,
            "");
        due("x {{6 ::  ; 7 :: 1 + 'a'} left ; 3 4 5 :: 'got' ; x[1] := 4 3 'z' x inter ''}\" 1", 2, 0, 27,
            "");
        due("q := x { {7 :: _2 where _1 b} _2 ( first 1 > 24) 4 z ; {v := {right : self 0} ; 0 ; v v ; 5 :: v := 9} v} y ; v", 2, 0, 40,
            "");
        x = new House();
        due("x := 1 ; y := 2 3 ; z := 'ab' ; w := 3 4 ; a := 2 2 rho 1 0 ; b := 3 ; f := + ; g := , ; a := 'q' ; w := enc enc 1 2 ; z := 0 rho enc 1 2 3 ; g := {0 = right : 1 ; right * self right - 1} ; f := {right} ; g := f/ ; z := '' ; b := 1 0 1 1 ; x := iota 4 ; x := 3 0 rho 0 ; a := 1r2 _3 4 ; f := +", 0, -1, 190,
            "");
        x.h.set(0, 1);
        due("{\\ #c @} =", -10, -1, 0,
            "");
        due("\" @ right exe", 2, 0, 3,
            "");
        x = new House();
        due("x := 1 ; y := 2 3 ; z := 'ab' ; w := 3 4 ; a := 2 2 rho 1 0 ; b := 3 ; f := + ; g := , ; b := 'hello' ; w := 2 2 2 rho iota 8 ; z := 0 rho enc 1 2 3 ; w := 5 ; a := 3 1 2 ; y := 'abc' (1 2) 5 ; w := enc enc 1 2", 0, -1, 215,
            "");
        due(" up 999 ; f := {1 : 28 y b /= 4 2} ; y := z[2] + x x rho z (3 3 <  -\" 1 4)", 3, 0, 5,
            "");
        x.h.set(0, 0);
        due("w := ''[;] w ; f := ceil", 3, 0, 4,
            "");
        x = new House();
        due("z := '' ; g := {0 = right : 1 ; right * self right - 1} ; x := 3 0 rho 0 ; y := 'ab' 'cd' 'ab' ; f := {right} ; g := f/ ; w := enc enc 1 2 ; z := 0 rho enc 1 2 3 ; w := 5 ; a := 'q' ; g := rev ; z := 2 2 rho 'ab' 1 2 (3 4) ; b := 1 0 1 1", 0, -1, 183,
            "");
        due("\\ key key", 1, 0, 4,
            "");
        due("self", 2, 0, 2,
            "");
        due("left", 2, 0, 2,
            "");
        x = new House();
        due("x := 1 ; y := 2 3 ; z := 'ab' ; w := 3 4 ; a := 2 2 rho 1 0 ; b := 3 ; f := + ; g := , ; y := 'ab' 'cd' 'ab' ; f := {right} ; x := 3 0 rho 0 ; w := 5 ; w := enc enc 1 2 ; g := rev ; b := 1 0 1 1 ; g := {0 = right : 1 ; right * self right - 1} ; b := 'hello' ; f := {left , right} ; f := +", 0, -1, 161,
            "");
        due("split 0 1001 rho ( same 3 4)[3 1]", 6, 0, 21,
            "");
        due("{'0 = right : 0 ; exe 'self right - 1'} 14", -47, -1, 0,
            "");
        x = new House();
        due("x := 1 ; y := 2 3 ; z := 'ab' ; w := 3 4 ; a := 2 2 rho 1 0 ; b := 3 ; f := + ; g := , ; g := rev ; a := 1r2 _3 4 ; z := 2 2 rho 'ab' 1 2 (3 4) ; w := 2 2 2 rho iota 8 ; f := {left , right} ; y := 'abc' (1 2) 5 ; z := 0 rho enc 1 2 3 ; b := 1 0 1 1 ; x := 2 3 rho iota 6 ; x := iota 4 ; g := f/", 0, -1, 304,
            "");
        due("[(+) [@ - (+) +] take self]", 2, 0, 2,
            "");
        due("+", 1, 0, 2,
            "");
    }

    private static void rows23() {
        x = new House();
        due("x := 2 3 rho iota 6 ; x := iota 4 ; g := f/ ; y := 'ab' 'cd' 'ab' ; y := (2 2 rho 1 2 3 4) (enc 1 2) 'a' ; x := 3 0 rho 0 ; b := 1 0 1 1 ; g := rev ; z := '' ; z := 0 3 rho '' ; f := +", 2, 2, 55,
            "");
        x.h.set(0, 1);
        due("{3 :: 1 + 'a' ; f := {1 + 'a'}} 0 ; v", 2, 0, 10,
            "");
        due("{tally right : ( iota 3 22 4 a)}\" 2 3 ; x ; f 1", 2, 0, 22,
            "");
        x = new House();
        due("x := 1 ; y := 2 3 ; z := 'ab' ; w := 3 4 ; a := 2 2 rho 1 0 ; b := 3 ; f := + ; g := , ; a := 3 1 2 ; x := 3 0 rho 0 ; f := + ; b := 'hello' ; g := {0 = right : 1 ; right * self right - 1} ; w := 5 ; z := '' ; a := 1r2 _3 4 ; w := enc enc 1 2 ; b := 1 0 1 1 ; x := iota 4 ; y := 'abc' (1 2) 5", 0, -1, 193,
            "");
        due("y <= :=  !~ b 0 ((max)) 'z' 'c' ; w enco := (z enc _1 take z ( ceil _6r1))", 5, 0, 26,
            "");
        due("x :=  ? 0r5 inter (x) :=  ? w", 0, -1, 27,
            "");
        due("g := or", 0, -1, 3,
            "");
        x = new House();
        due("x := 1 ; y := 2 3 ; z := 'ab' ; w := 3 4 ; a := 2 2 rho 1 0 ; b := 3 ; f := + ; g := , ; z := 0 rho enc 1 2 3 ; f := + ; w := 5 ; x := 2 3 rho iota 6 ; a := 3 1 2 ; a := 1r2 _3 4 ; w := 2 2 2 rho iota 8 ; x := 3 0 rho 0 ; b := 1 0 1 1 ; z := '' ; f := {left , right} ; z := 2 2 rho 'ab' 1 2 (3 4)", 0, -1, 290,
            "");
        due("y , [[nope + x[1] + rank] g 1 +]", 1, 0, 3,
            "");
        due("(1 [\"] {+} {pow 2 + #c {right}} '') + (- + \" ['' = rank 1]) ((+) take)", -21, -1, 0,
            "");
        due("{(+ - + +) [(+) self key _1 \"] @ {+}} [{x 1} x - + [+ (+) +]] left @", 2, 0, 3,
            "");
        x = new House();
        due("x := 1 ; y := 2 3 ; z := 'ab' ; w := 3 4 ; a := 2 2 rho 1 0 ; b := 3 ; f := + ; g := , ; x := 3 0 rho 0 ; f := {left , right} ; y := (2 2 rho 1 2 3 4) (enc 1 2) 'a' ; y := 'abc' (1 2) 5 ; f := {right} ; z := 0 rho enc 1 2 3 ; x := 2 3 rho iota 6 ; z := '' ; w := 2 2 2 rho iota 8 ; g := {0 = right : 1 ; right * self right - 1} ; g := rev ; g := f/ ; a := 1r2 _3 4", 0, -1, 307,
            "");
        due("{(1 take x) :=  first  same 'cc' ; v := {exe 'self 0' ; f := {0 = right :  ; x 3 _1} ;  up  % _4 ''' cz' 'c''a' iota 0 ; 'c ' (_4 2 b '''' expand x)} ;  depth (x)} 0 ; x ; f 1", 0, -1, 73,
            "1\n[2 3]c c c 4 5 6\n1\n");
        due("q := x {{f := {exe 'x[1] := 4' ; exe 'v ; u'}} x ; 3 :: v}/ y", 4, 0, 21,
            "");
        due("x {3 4 5 :: u ; 0 : } 1 ; x ; f 1", 2, 0, 21,
            "");
        x = new House();
        due("f := {left , right} ; y := 'ab' 'cd' 'ab' ; x := 3 0 rho 0 ; z := 2 2 rho 'ab' 1 2 (3 4) ; z := '' ; b := 'hello' ; a := 3 1 2 ; g := rev ; w := 2 2 2 rho iota 8 ; g := f/", 0, -1, 167,
            "");
        due("rev", 1, 0, 2,
            "");
        due("{exe + [+ pow 2 self foo key]} left _1", 2, 0, 3,
            "");
        due("({right} pow {-}) ({right} rho rho)", 1, 0, 4,
            "");
        x = new House();
        due("x := 1 ; y := 2 3 ; z := 'ab' ; w := 3 4 ; a := 2 2 rho 1 0 ; b := 3 ; f := + ; g := , ; x := 3 0 rho 0 ; g := f/ ; a := 'q' ; b := 1 0 1 1 ; w := 2 2 2 rho iota 8 ; g := rev ; f := + ; g := {0 = right : 1 ; right * self right - 1} ; a := 3 1 2 ; a := 1r2 _3 4 ; y := 'ab' 'cd' 'ab' ; w := 5", 0, -1, 201,
            "");
        due("{'0 = right : 0 ; exe 'self right - 1'} 13", -47, -1, 0,
            "");
        x.h.set(0, 0);
        due("enc pow 4 w", 0, -1, 20,
            "5\n");
        x = new House();
        due("x := 1 ; y := 2 3 ; z := 'ab' ; w := 3 4 ; a := 2 2 rho 1 0 ; b := 3 ; f := + ; g := , ; w := 2 2 2 rho iota 8 ; z := '' ; x := 3 0 rho 0 ; a := 1r2 _3 4 ; x := 2 3 rho iota 6 ; y := 'ab' 'cd' 'ab' ; y := 'abc' (1 2) 5 ; g := f/ ; b := 1 0 1 1 ; a := 'q' ; w := 5 ; g := rev ; w := enc enc 1 2 ; z := 2 2 rho 'ab' 1 2 (3 4)", 0, -1, 326,
            "");
        due("a b ,  depth w[3 2; enc 2 _1 ' za' 4;0 0] z ; g := - ; ( ^ x) 4 (enco)  same b", 3, 0, 56,
            "");
        due("z :=  depth (4) _0 (0 1r2000000000 0 w) = 0", 0, -1, 70,
            "");
        x = new House();
        due("y := (2 2 rho 1 2 3 4) (enc 1 2) 'a' ; g := f/ ; y := 'abc' (1 2) 5 ; b := 1 0 1 1 ; z := '' ; a := 3 1 2 ; z := 0 3 rho '' ; w := 5 ; a := 1r2 _3 4", 2, 1, 63,
            "");
        due("pow - = . self", 2, 0, 2,
            "");
        due("_1", 0, -1, 2,
            "_1\n");
        x = new House();
        due("x := 1 ; y := 2 3 ; z := 'ab' ; w := 3 4 ; a := 2 2 rho 1 0 ; b := 3 ; f := + ; g := , ; z := '' ; y := (2 2 rho 1 2 3 4) (enc 1 2) 'a' ; g := {0 = right : 1 ; right * self right - 1} ; x := 2 3 rho iota 6 ; f := {left , right} ; z := 2 2 rho 'ab' 1 2 (3 4) ; y := 'ab' 'cd' 'ab' ; b := 1 0 1 1 ; f := + ; w := 2 2 2 rho iota 8 ; x := 3 0 rho 0 ; a := 1r2 _3 4 ; g := f/ ; w := 5", 0, -1, 337,
            "");
        due("[+ . + . [(+) .]] + right", 2, 0, 2,
            "");
        due("{#c x} exe [nope {exe := f + {right}} , [+ x ~ + +]] rank", -10, -1, 0,
            "");
        x = new House();
        due("x := 1 ; y := 2 3 ; z := 'ab' ; w := 3 4 ; a := 2 2 rho 1 0 ; b := 3 ; f := + ; g := , ; x := iota 4 ; x := 2 3 rho iota 6 ; b := 1 0 1 1 ; b := 'hello' ; y := (2 2 rho 1 2 3 4) (enc 1 2) 'a' ; f := + ; f := {left , right} ; g := {0 = right : 1 ; right * self right - 1} ; w := 5 ; y := 'abc' (1 2) 5 ; g := rev", 0, -1, 234,
            "");
        due("q := x {exe 'self 0'}\" 2 3 ; v", 3, 0, 18,
            "");
        due("f := g ; x {exe 'v := 3' ; right : u ; x := _5r4 expand right}/ x ; v", 4, 1, 22,
            "");
        due("x {0 :  ; v := x} y ; v", 2, 0, 30,
            "");
    }

    private static void rows24() {
        x = new House();
        due("y := (2 2 rho 1 2 3 4) (enc 1 2) 'a' ; f := + ; a := 'q' ; x := 2 3 rho iota 6 ; x := 3 0 rho 0 ; w := 5 ; a := 1r2 _3 4 ; g := {0 = right : 1 ; right * self right - 1} ; y := 'abc' (1 2) 5", 0, -1, 160,
            "");
        due("y drop := 1 2 (enco) (b + '''zca' enco x w x)[2 0;1 3]", 5, 0, 27,
            "");
        due(" tally (999 gcd 0 _1 a z) max (4)", 2, 0, 6,
            "");
        due("b ( ! z) z[ up 2 3 3;2 2;x :=  up 25] _3r4 ! _1 up (y find 'bbz' _1) 'zb'", 1, 0, 37,
            "");
        x = new House();
        due("x := 1 ; y := 2 3 ; z := 'ab' ; w := 3 4 ; a := 2 2 rho 1 0 ; b := 3 ; f := + ; g := , ; a := 'q' ; y := (2 2 rho 1 2 3 4) (enc 1 2) 'a' ; z := 0 rho enc 1 2 3 ; a := 3 1 2 ; f := {right} ; x := 3 0 rho 0 ; x := iota 4 ; z := 2 2 rho 'ab' 1 2 (3 4) ; w := 2 2 2 rho iota 8 ; f := {left , right} ; w := enc enc 1 2", 0, -1, 324,
            "");
        due(" {'a' :: 3 a ^ y x right} 0 iota x 0 'b''a' _2000000000 ; 123456789 same pow 0 1 (b x 0r5 (4 _3 > 'b ' 20 z)) (3 y | b ( enl y 0) (7r6 8 a or w)) (y lcm 0) ; a := ('' y - 7r5[] ' cz''') 'a' min 1 ( ? a) 65536 {left deco _3 without b := z inter 0;1 : 1 a 3 _1 + right[1 1; - _3 1r2000000000 b 0r5]; rho 4 (w 2 _4 deco left 2 4)} y (b 0 iota rank 0 1 0 2 y split _4 _2)", 3, 0, 32,
            "");
        x.h.set(0, 1);
        due("f := depth", 0, -1, 3,
            "");
        x = new House();
        due("x := 1 ; y := 2 3 ; z := 'ab' ; w := 3 4 ; a := 2 2 rho 1 0 ; b := 3 ; f := + ; g := , ; g := rev ; b := 1 0 1 1 ; z := 0 3 rho '' ; x := 2 3 rho iota 6 ; w := 5 ; a := 1r2 _3 4 ; w := enc enc 1 2 ; x := iota 4 ; z := '' ; z := 2 2 rho 'ab' 1 2 (3 4) ; x := 3 0 rho 0 ; y := 'ab' 'cd' 'ab' ; z := 0 rho enc 1 2 3", 0, -1, 301,
            "");
        due("{4 :: 'got' ; 1000 0 >= ( first 1) ; 1 :: right} 2 3", 0, -1, 31,
            "1 0\n");
        due("x {4 :: 5 - key 'a' x z[right;] a ; x , := 1}\" 1 ; v", 2, 1, 9,
            "[3 0]\n");
        x = new House();
        due("x := 1 ; y := 2 3 ; z := 'ab' ; w := 3 4 ; a := 2 2 rho 1 0 ; b := 3 ; f := + ; g := , ; w := 2 2 2 rho iota 8 ; w := 5 ; x := 3 0 rho 0 ; b := 'hello' ; b := 1 0 1 1 ; y := 'ab' 'cd' 'ab' ; f := {left , right} ; a := 'q'", 0, -1, 176,
            "");
        due("{{{{{right}}}}} 1", 1, 0, 7,
            "");
        due("up 33 rho w , ? 20 rho 3", 0, -1, 240,
            "8 12 14 16 29 33 2 3 6 11 18 19 20 21 23 24 27 32 4 5 7 9 10 13 15 17 25 26 28 30 31 1 22\n");
        x = new House();
        due("x := 1 ; y := 2 3 ; z := 'ab' ; w := 3 4 ; a := 2 2 rho 1 0 ; b := 3 ; f := + ; g := , ; z := '' ; y := 'ab' 'cd' 'ab' ; a := 1r2 _3 4 ; g := {0 = right : 1 ; right * self right - 1} ; a := 'q' ; w := enc enc 1 2 ; b := 1 0 1 1 ; x := 2 3 rho iota 6", 0, -1, 181,
            "");
        due("g := {0 : 'zb' 23 gcd x 2\ny := x - right x right x\n'' ::  , 2 x} . or", 0, -1, 5,
            "");
        due("(- b) :=  g ( tally b) penc x a", 4, 0, 32,
            "");
        due("w := 1 >= a z union 4", 5, 0, 22,
            "");
        x = new House();
        due("x := 2 3 rho iota 6 ; z := 0 rho enc 1 2 3 ; a := 1r2 _3 4 ; z := 2 2 rho 'ab' 1 2 (3 4) ; w := 2 2 2 rho iota 8 ; g := {0 = right : 1 ; right * self right - 1} ; b := 1 0 1 1 ; f := + ; y := 'abc' (1 2) 5 ; g := f/ ; a := 3 1 2 ; b := 'hello'", 0, -1, 250,
            "");
        due("q := {0 :: right ; 3 and (1 drop x) := b part 28 b z ,[2] x ; 1 1 : f := + ; (1 take x) := x 0 <= 4} x ; v", 2, 1, 75,
            "");
        due("q := {f := (z z w) :=  tally _2000000000 ; 0 : v := right} x ; x ; f 1", 2, 0, 25,
            "");
        due("q := {7 :: f := + ; 1 + 'a'} 2 3", 5, 0, 19,
            "");
        x = new House();
        due("x := 1 ; y := 2 3 ; z := 'ab' ; w := 3 4 ; a := 2 2 rho 1 0 ; b := 3 ; f := + ; g := , ; f := {left , right} ; w := enc enc 1 2 ; z := 0 rho enc 1 2 3 ; w := 2 2 2 rho iota 8 ; g := rev ; z := 0 3 rho '' ; y := 'abc' (1 2) 5 ; a := 3 1 2 ; b := 1 0 1 1 ; x := 3 0 rho 0 ; w := 5 ; x := 2 3 rho iota 6 ; z := '' ; y := 'ab' 'cd' 'ab'", 0, -1, 314,
            "");
        due("#c {x[1] +}", 0, -1, 0,
            "");
        due("- mix {rho #c + #c}", -16, -1, 0,
            "");
        due("([self + key]) x self", 2, 0, 2,
            "");
        x = new House();
        due("z := '' ; x := 3 0 rho 0 ; a := 1r2 _3 4 ; g := rev ; w := enc enc 1 2 ; f := {left , right} ; z := 2 2 rho 'ab' 1 2 (3 4) ; z := 0 3 rho '' ; a := 'q' ; y := 'abc' (1 2) 5 ; w := 2 2 2 rho iota 8 ; f := {right} ; y := (2 2 rho 1 2 3 4) (enc 1 2) 'a'", 0, -1, 260,
            "");
        due("q := x {exe 'v := 3' ; 1 1 : ( % right 'acb') 0} 2 3 ; x ; f 1", 0, -1, 39,
            "[3 0]\n1\n");
        due("q := x {f := {v + := 0 > z ; self right}} 2 3 ; x ; f 1", 2, 0, 14,
            "");
        x = new House();
        due("x := 1 ; y := 2 3 ; z := 'ab' ; w := 3 4 ; a := 2 2 rho 1 0 ; b := 3 ; f := + ; g := , ; x := 2 3 rho iota 6 ; y := (2 2 rho 1 2 3 4) (enc 1 2) 'a' ; f := {left , right} ; b := 'hello' ; z := 2 2 rho 'ab' 1 2 (3 4) ; w := enc enc 1 2 ; z := 0 rho enc 1 2 3 ; z := 0 3 rho '' ; z := '' ; w := 2 2 2 rho iota 8", 0, -1, 340,
            "");
        due("x := 250 rho enc 3 rho 1", 0, -1, 2028,
            "");
        due("enc pow 6 z", 0, -1, 54,
            "(((((())))))\n");
        x = new House();
        due("x := 1 ; y := 2 3 ; z := 'ab' ; w := 3 4 ; a := 2 2 rho 1 0 ; b := 3 ; f := + ; g := , ; a := 1r2 _3 4 ; z := 2 2 rho 'ab' 1 2 (3 4) ; y := (2 2 rho 1 2 3 4) (enc 1 2) 'a' ; b := 'hello' ; w := 2 2 2 rho iota 8 ; w := 5 ; a := 'q' ; f := + ; g := rev ; f := {right} ; x := 3 0 rho 0", 0, -1, 266,
            "");
        due("a enco x", 5, 0, 6,
            "");
        due("g := {6 max 14 26 g ' ''z'[0] 'ba' 1}", 0, -1, 3,
            "");
        due("g := mem ; y := 4 'zc' w ; 0 (2 + _1 w w b) 'z '[4r3;_1r1 3 23 _1] {6 :: _4 _3 fmt 'z';f := -} a[1 0] _1 2 1", 3, 2, 31,
            "");
    }

    private static void rows25() {
        x = new House();
        due("a := 3 1 2 ; a := 1r2 _3 4 ; f := + ; f := {left , right} ; b := 1 0 1 1 ; y := 'ab' 'cd' 'ab' ; w := 2 2 2 rho iota 8 ; w := enc enc 1 2 ; x := 3 0 rho 0 ; g := f/", 0, -1, 157,
            "");
        due("drop 3", 1, 0, 3,
            "");
        due("iota 4 8 1 0 10 0 6", 7, 0, 24,
            "");
        x = new House();
        due("x := 1 ; y := 2 3 ; z := 'ab' ; w := 3 4 ; a := 2 2 rho 1 0 ; b := 3 ; f := + ; g := , ; z := '' ; a := 1r2 _3 4 ; w := 5 ; z := 0 3 rho '' ; g := f/ ; z := 0 rho enc 1 2 3 ; x := iota 4 ; y := (2 2 rho 1 2 3 4) (enc 1 2) 'a' ; w := enc enc 1 2 ; f := {right} ; y := 'ab' 'cd' 'ab' ; b := 'hello'", 0, -1, 260,
            "");
        due("{right} /= [['ab' + '' , +]]", 1, 0, 3,
            "");
        due("([+ .] take [+ rank , + :=] (+)) - + 1 +", 1, 0, 3,
            "");
        due("[(rank 1 ~ + 2 +) . rank 1]", 1, 0, 4,
            "");
        x = new House();
        due("x := 1 ; y := 2 3 ; z := 'ab' ; w := 3 4 ; a := 2 2 rho 1 0 ; b := 3 ; f := + ; g := , ; w := 5 ; g := f/ ; z := 0 3 rho '' ; x := 2 3 rho iota 6 ; w := 2 2 2 rho iota 8 ; y := 'ab' 'cd' 'ab' ; y := (2 2 rho 1 2 3 4) (enc 1 2) 'a' ; x := 3 0 rho 0 ; a := 1r2 _3 4 ; w := enc enc 1 2 ; z := 0 rho enc 1 2 3 ; f := {right}", 0, -1, 334,
            "");
        due("{tally right : w[2;1 inter 1r2000000000 x;1] := _2 right min w left 2 ? (2 b b) ( ceil 2 'azzc' 2 4) y 'c' ; 4 :: right ; {v[1] := 2000000000 y 4 1 rot  depth  * _3[w b tr 6 0 a;y * 2] b (y a or 'caz' 1r1)[;0 2] _3} x ; 7 :: u} 1 ; v", 5, 0, 36,
            "");
        x.h.set(0, 0);
        due("q := 1 {g := {1 + 'a'} ; 2 :: 1 + 'a'} 2 3 ; x ; f 1", 5, 0, 23,
            "");
        x = new House();
        due("x := 1 ; y := 2 3 ; z := 'ab' ; w := 3 4 ; a := 2 2 rho 1 0 ; b := 3 ; f := + ; g := , ; z := 0 rho enc 1 2 3 ; y := 'ab' 'cd' 'ab' ; f := {left , right} ; x := 3 0 rho 0 ; y := 'abc' (1 2) 5 ; f := + ; b := 1 0 1 1 ; x := iota 4 ; w := 2 2 2 rho iota 8 ; a := 'q' ; z := 2 2 rho 'ab' 1 2 (3 4) ; z := 0 3 rho '' ; a := 3 1 2", 0, -1, 311,
            "");
        due("exe '''aab'' 1 ; _4 y min 7' ; b ; 4 mem  ,[1r2] ( up\" x (123456789 30) _4 w[0 1])[w a 2 (0 ? 2);'z ' z] (0 penc/[0]  % (0 19 lcm ( ceil w a 8 _9r6))) 0", 5, 0, 59,
            "");
        due("b := z ^ 3 inter b", 3, 0, 14,
            "");
        due("b := ( where _2r5 'b ' _4r2) 2", 5, 0, 18,
            "");
        x = new House();
        due("x := 1 ; y := 2 3 ; z := 'ab' ; w := 3 4 ; a := 2 2 rho 1 0 ; b := 3 ; f := + ; g := , ; z := '' ; f := {left , right} ; y := (2 2 rho 1 2 3 4) (enc 1 2) 'a' ; w := enc enc 1 2 ; g := {0 = right : 1 ; right * self right - 1} ; x := 2 3 rho iota 6 ; a := 3 1 2 ; b := 'hello' ; a := 1r2 _3 4 ; y := 'ab' 'cd' 'ab' ; x := 3 0 rho 0 ; z := 0 3 rho ''", 0, -1, 268,
            "");
        due("{0 = right : 0 ; self right - 1} 40", 7, 0, 765,
            "");
        x.h.set(0, 1);
        due("{'0 = right : 0 ; exe 'self right - 1'} 3", -47, -1, 0,
            "");
        x = new House();
        due("x := 1 ; y := 2 3 ; z := 'ab' ; w := 3 4 ; a := 2 2 rho 1 0 ; b := 3 ; f := + ; g := , ; w := enc enc 1 2 ; w := 5 ; a := 3 1 2 ; y := 'ab' 'cd' 'ab' ; x := 3 0 rho 0 ; b := 'hello' ; x := 2 3 rho iota 6 ; g := rev ; z := '' ; w := 2 2 2 rho iota 8 ; g := {0 = right : 1 ; right * self right - 1} ; y := 'abc' (1 2) 5 ; f := + ; z := 0 rho enc 1 2 3 ; a := 1r2 _3 4 ; f := {right} ; x := iota 4", 0, -1, 328,
            "");
        due("2", 0, -1, 2,
            "2\n");
        due("+ + + {=} ({right} pow 2 + (x) +)", 1, 0, 5,
            "");
        x = new House();
        due("x := 1 ; y := 2 3 ; z := 'ab' ; w := 3 4 ; a := 2 2 rho 1 0 ; b := 3 ; f := + ; g := , ; f := {left , right} ; z := 0 rho enc 1 2 3 ; g := f/ ; w := enc enc 1 2 ; z := 0 3 rho '' ; x := 3 0 rho 0 ; x := 2 3 rho iota 6 ; a := 1r2 _3 4 ; b := 1 0 1 1 ; z := 2 2 rho 'ab' 1 2 (3 4) ; f := +", 0, -1, 265,
            "");
        due("{tally right : u ; f :=  ? 4[2 0;;2 3]} x", 5, 0, 21,
            "");
        due("1 {3 4 5 :: right ; { + 4 rep a ; {f := 1001 > _4r3 deco  floor right (_2 ^ a z) 1 ; exe 'f 1' ; 4 y ^  depth 3 _2 3 ^ '''za' ; 0 = right : v := right} right ;  where  - right right 1} left ; 6 :: f := + ; exe 'v := 3'} 0 ; x ; f 1", 0, -1, 99,
            "1r2 1r2 1r2 1r2 _3 _3 _3 _3 4 4 4 4\n[2 3]1 2 3 4 5 6\n1\n");
        x = new House();
        due("x := 1 ; y := 2 3 ; z := 'ab' ; w := 3 4 ; a := 2 2 rho 1 0 ; b := 3 ; f := + ; g := , ; y := 'ab' 'cd' 'ab' ; a := 1r2 _3 4 ; g := rev ; a := 3 1 2 ; w := enc enc 1 2", 0, -1, 133,
            "");
        due("f := g ; {x := '' and x 29 tr b 5r6}\" y ; v", 4, 1, 40,
            "");
        due("f := g ; {6 :: left ; 3 :: 1 + 'a' ; {v := {v + := b ! 0 , 2 _3}} left ; 1 + 'a'} y ; v", 2, 1, 23,
            "");
        x = new House();
        due("x := 1 ; y := 2 3 ; z := 'ab' ; w := 3 4 ; a := 2 2 rho 1 0 ; b := 3 ; f := + ; g := , ; b := 'hello' ; z := '' ; y := 'abc' (1 2) 5 ; w := enc enc 1 2 ; g := f/ ; g := rev ; z := 0 3 rho '' ; x := iota 4 ; w := 5 ; b := 1 0 1 1 ; x := 3 0 rho 0", 0, -1, 184,
            "");
        due("{v 1 ; tally right : v := right}/ 0 ; v", 2, 1, 9,
            "0\n");
        due("q := x {5 :: right ; 2 ::  ; v := {f := {exe 'v ; u' ; 7 :: x ; exe 'self 0'} ; f := {x := 3 'za' expand _1 = x y}} ; 1 + 'a'}\" 1", 0, -1, 8,
            "");
        due("{x[1] := 'b ' ' c' ; 7 :: x ; 3 :: left}/ 2 3 ; v", 3, 0, 25,
            "");
        x = new House();
        due("x := 1 ; y := 2 3 ; z := 'ab' ; w := 3 4 ; a := 2 2 rho 1 0 ; b := 3 ; f := + ; g := , ; y := 'abc' (1 2) 5 ; z := 0 3 rho '' ; f := + ; y := 'ab' 'cd' 'ab' ; a := 1r2 _3 4 ; f := {right} ; w := 2 2 2 rho iota 8 ; b := 'hello' ; g := {0 = right : 1 ; right * self right - 1} ; a := 'q' ; f := {left , right} ; x := iota 4", 0, -1, 216,
            "");
        due("(self)", 2, 0, 3,
            "");
        due("{+} (f) +", 1, 0, 5,
            "");
    }

    private static void rows26() {
        x = new House();
        due("x := 1 ; y := 2 3 ; z := 'ab' ; w := 3 4 ; a := 2 2 rho 1 0 ; b := 3 ; f := + ; g := , ; x := 3 0 rho 0 ; x := 2 3 rho iota 6 ; x := iota 4 ; z := 0 3 rho '' ; f := {right} ; f := {left , right} ; y := 'ab' 'cd' 'ab'", 0, -1, 163,
            "");
        due("a := 0 b a ,[3r2] rank 2 12 g  up x a z ; a ^ 0[0] w", 4, 0, 83,
            "");
        due("x[ g  up y w] := 'z' z 22[;3 0;2 ! (y)]", 5, 0, 16,
            "");
        due("(a b) := 14 tr 2 z 'z ' z ;  enc\" 2 ; z (a)", 6, 0, 22,
            "");
        x = new House();
        due("x := 1 ; y := 2 3 ; z := 'ab' ; w := 3 4 ; a := 2 2 rho 1 0 ; b := 3 ; f := + ; g := , ; g := {0 = right : 1 ; right * self right - 1} ; x := 2 3 rho iota 6 ; g := f/ ; f := {left , right} ; a := 1r2 _3 4 ; a := 3 1 2 ; z := '' ; y := 'ab' 'cd' 'ab' ; z := 2 2 rho 'ab' 1 2 (3 4)", 0, -1, 206,
            "");
        due("uniq 33 rho x[ | a _2 3] , ? 20 rho 4", 3, 0, 107,
            "");
        due("33 rot _2", 0, -1, 8,
            "_2\n");
        due("rep _4", 1, 0, 3,
            "");
        x = new House();
        due("x := 1 ; y := 2 3 ; z := 'ab' ; w := 3 4 ; a := 2 2 rho 1 0 ; b := 3 ; f := + ; g := , ; z := '' ; x := iota 4 ; y := 'ab' 'cd' 'ab' ; z := 0 3 rho '' ; g := {0 = right : 1 ; right * self right - 1} ; a := 'q' ; w := 2 2 2 rho iota 8 ; b := 'hello' ; w := enc enc 1 2 ; a := 3 1 2", 0, -1, 211,
            "");
        due(", rank [(x) [+] nope [+]]", 1, 0, 2,
            "");
        due("_1", 0, -1, 2,
            "_1\n");
        due("rank 1", 1, 0, 3,
            "");
        x = new House();
        due("x := 1 ; y := 2 3 ; z := 'ab' ; w := 3 4 ; a := 2 2 rho 1 0 ; b := 3 ; f := + ; g := , ; x := 3 0 rho 0 ; g := {0 = right : 1 ; right * self right - 1} ; z := 0 3 rho '' ; y := (2 2 rho 1 2 3 4) (enc 1 2) 'a' ; x := 2 3 rho iota 6 ; w := 5 ; b := 'hello' ; a := 1r2 _3 4 ; g := rev ; f := {left , right} ; b := 1 0 1 1 ; z := 2 2 rho 'ab' 1 2 (3 4) ; x := iota 4 ; w := enc enc 1 2", 0, -1, 316,
            "");
        due("(a 2000000000 3 iota b w) 0 (find)  (%) _4 ; (_1 rot w) := ((1 drop b) := 0 deco 4 2)", 0, -1, 109,
            "0\n");
        due(" + y part :=  rev y (b * 0 4 _3)", 4, 0, 18,
            "");
        x = new House();
        due("y := 'ab' 'cd' 'ab' ; f := {right} ; x := 2 3 rho iota 6 ; w := enc enc 1 2 ; w := 2 2 2 rho iota 8 ; b := 'hello' ; z := 0 3 rho '' ; z := 0 rho enc 1 2 3", 0, -1, 191,
            "");
        due("((((((((((((((((((((((((((((((((((((((((1", -49, -1, 0,
            "");
        due("{{{right}}} 1", 1, 0, 7,
            "");
        x = new House();
        due("x := 1 ; y := 2 3 ; z := 'ab' ; w := 3 4 ; a := 2 2 rho 1 0 ; b := 3 ; f := + ; g := , ; w := 5 ; x := iota 4 ; z := 0 rho enc 1 2 3 ; w := 2 2 2 rho iota 8 ; a := 'q' ; f := + ; y := (2 2 rho 1 2 3 4) (enc 1 2) 'a' ; b := 1 0 1 1 ; z := 0 3 rho '' ; z := 2 2 rho 'ab' 1 2 (3 4) ; a := 3 1 2", 0, -1, 312,
            "");
        due("a :=  tally\"  up  {right y _4 4 ? left right b 1} (4 x w z)", 2, 0, 62,
            "");
        due("x :=  rev[1r2] 4 2 ;  enc a[4 % 2 1r3 3] := w _2 'z''' gcd 2 ;  {(x z) := y 3} w ' ' rho (y z a max 'aa' 4r6 1 1) z 1 14", 5, 0, 11,
            "");
        x = new House();
        due("x := 1 ; y := 2 3 ; z := 'ab' ; w := 3 4 ; a := 2 2 rho 1 0 ; b := 3 ; f := + ; g := , ; z := 0 3 rho '' ; a := 1r2 _3 4 ; z := 2 2 rho 'ab' 1 2 (3 4) ; w := enc enc 1 2 ; b := 'hello' ; w := 2 2 2 rho iota 8 ; y := (2 2 rho 1 2 3 4) (enc 1 2) 'a' ; f := + ; x := 2 3 rho iota 6 ; y := 'ab' 'cd' 'ab' ; a := 'q'", 0, -1, 342,
            "");
        due("f := match ; g := fmt\"", 0, -1, 7,
            "");
        due("x[3] := ( uniq x)", 3, 0, 11,
            "");
        due("x x[3 12 24] ! ( + 'z''az' or 1 4r1 999[ | y 24 _4 4]) 0 y 2 g 1 ' '", 5, 0, 44,
            "");
        x = new House();
        due("x := 1 ; y := 2 3 ; z := 'ab' ; w := 3 4 ; a := 2 2 rho 1 0 ; b := 3 ; f := + ; g := , ; z := 2 2 rho 'ab' 1 2 (3 4) ; x := iota 4 ; f := {left , right} ; a := 3 1 2 ; g := rev ; b := 1 0 1 1 ; a := 1r2 _3 4 ; w := enc enc 1 2 ; w := 2 2 2 rho iota 8 ; z := 0 3 rho '' ; x := 2 3 rho iota 6 ; x := 3 0 rho 0 ; y := (2 2 rho 1 2 3 4) (enc 1 2) 'a' ; y := 'ab' 'cd' 'ab' ; w := 5 ; b := 'hello'", 0, -1, 396,
            "");
        due("exe ' + a 1 ^ (_1 min 10 b 0) x x'", 5, 0, 59,
            "");
        due(" rev w[] w (|) b", 3, 0, 8,
            "");
        due("x :=  floor b (29 0[1;3] 'b''' drop rank 3 _2 0 w ((0) (4 6 '''' z)))", 3, 0, 44,
            "");
        x = new House();
        due("x := 1 ; y := 2 3 ; z := 'ab' ; w := 3 4 ; a := 2 2 rho 1 0 ; b := 3 ; f := + ; g := , ; w := 2 2 2 rho iota 8 ; y := (2 2 rho 1 2 3 4) (enc 1 2) 'a' ; x := iota 4 ; g := rev ; f := + ; z := 2 2 rho 'ab' 1 2 (3 4) ; a := 'q' ; a := 1r2 _3 4 ; b := 1 0 1 1 ; b := 'hello'", 0, -1, 275,
            "");
        due("(mix foo + x {y [1] +}) + 1r2 x", 1, 0, 13,
            "");
        due("2", 0, -1, 2,
            "2\n");
        x = new House();
        due("x := 1 ; y := 2 3 ; z := 'ab' ; w := 3 4 ; a := 2 2 rho 1 0 ; b := 3 ; f := + ; g := , ; y := 'abc' (1 2) 5 ; a := 'q' ; f := {left , right} ; f := + ; g := f/ ; x := 3 0 rho 0 ; g := rev ; z := 2 2 rho 'ab' 1 2 (3 4) ; z := 0 3 rho '' ; w := 2 2 2 rho iota 8 ; a := 3 1 2 ; y := (2 2 rho 1 2 3 4) (enc 1 2) 'a' ; w := 5", 0, -1, 299,
            "");
        due("1 {3 :: v} 2 3", 2, 0, 13,
            "");
        due("x {1 2 :: u ; 6 :: 'got' ; x :=  down 3} 1 ; v", 3, 0, 19,
            "");
        due("1 {{y :=  uniq 4} v ; x , := z := 18 x find 3r5 ;  + 0 ; 0 :: v := 9}\" 2 3 ; v", 2, 0, 19,
            "");
    }
}
