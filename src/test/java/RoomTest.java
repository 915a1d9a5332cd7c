/**
 * Promises 4 to 8: a text whose STEPS, openings, values and NAMES keep their bounds is done to its end, however much is
 * made on the way that nothing means any more; and what is still meant stays as it was. The answers, the STEPS and what
 * is SHOWN are those of tools/oracle.py.
 */
public final class RoomTest {
    public static void main(String[] args) {
        guardedEvents();
        quoted();
        withoutEvents();
        guards();
        whatIsMeantStays();
        fullHouse();
        manyRuns();
        fiveHundredCalls();
        House.end();
    }

    /** `3|ab` in a text stands for ababab. */
    private static String spelled(String text) {
        StringBuilder s = new StringBuilder();
        String[] parts = text.split("`", -1);
        for (int i = 0; i < parts.length; i++) {
            int bar = parts[i].indexOf('|');
            if (i % 2 == 0) s.append(parts[i]);
            else s.append(parts[i].substring(bar + 1).repeat(Integer.parseInt(parts[i].substring(0, bar))));
        }
        return s.toString();
    }

    private static void due(House x, String text, int answer, int steps, String shown) {
        House.due(text, x.run(spelled(text)), answer);
        House.due(text + "  (steps)", x.h.steps(), steps);
        House.due(text + "  (shown)", x.shown().replace("\n", "|"), shown);
    }

    private static void due(String text, int answer, int steps, String shown) {
        due(new House(), text, answer, steps, shown);
    }

    /** Each EVENT that comes behind the making of something great, taken by a GUARD again and again. */
    private static void guardedEvents() {
        due("x:=1 1 1 1 1 1 rho enc 1 2;i:=1 1 1;j:=1 1 1 1;({0::0;x[i;i;i;i;i;j]}pow 1000)0",
            0, 37076, "0|");
        due("a:=500 0 rho 0;b:=1 1 rho enc 1 2;c:=1 0;({0::0;{right:a;b}rank 0 c}pow 1200)0",
            0, 36059, "0|");
        due("m:=1000 0 rho 0;({0::0;{right}/m}pow 2800)0",
            0, 30821, "0|");
        due("m:=1000 0 rho 0;({0::0;m{right} . {right}0}pow 2000)0",
            0, 28021, "0|");
        due("e:=0 0 rho 0;x:=1000 rho enc e;({7::0;x , x}pow 15)0",
            0, 32197, "0|");
        due("({7::9;iota 10 10 10}pow 2000)0",
            0, 36009, "9|");
        due("({7::9;iota 400 1000}pow 2000)0",
            0, 30009, "9|");
        due("({7::9;1000 rho enc 1 2}pow 1500)0",
            0, 37509, "9|");
        due("x:=1000 rho 1;x[1000]:='a';({5::9;- x}pow 35)0",
            0, 38371, "9|");
        due("x:=1000 rho 1;x[1000]:='a';({5::9;x < 1}pow 35)0",
            0, 38441, "9|");
        due("x:=500 rho 1;({4::9;x + 1 , x}pow 15)0",
            0, 31272, "9|");
        due("x:=iota 300;({6::9;x[x , 301]}pow 18)0",
            0, 22503, "9|");
        due("x:=(iota 300),'a';({5::9;x +\" x}pow 10)0",
            0, 22402, "9|");
        due("x:=(iota 300),'a';({5::9;+/ x , 1}pow 18)0",
            0, 17854, "9|");
        due("x:=(iota 30),'a';({5::9;+\\ x , 1}pow 15)0",
            0, 28417, "9|");
        due("({7::9;enc enc enc enc enc enc enc enc 1 2}pow 250)0",
            0, 28259, "9|");
        due("x:=enc enc enc enc enc enc 1 2;({7::9;mix x (enc enc x)}pow 1000)0",
            0, 39095, "9|");
        due("({7::9;fmt 1000 rho 12}pow 15)0",
            0, 30234, "9|");
        due("y:=900 rho 2;({7::9;where y}pow 30)0",
            0, 29117, "9|");
        due("y:=30 30 rho 1;({7::9;where y}pow 30)0",
            0, 29121, "9|");
        due("y:=1000 rho 1;({7::9;2 rep y}pow 30)0",
            0, 32377, "9|");
        due("x:=1000 1 rho 1;({7::9;x +@ 1 1}pow 30)0",
            0, 32531, "9|");
        due("({7::9;mix (1 999 rho 0) (, 1 2)}pow 12)0",
            0, 12357, "9|");
        due("({0::9;x:=900 rho 0;x[1 1]:=2 3 4}pow 10)0",
            0, 18269, "9|");
        due("x:=900 rho 0;({0::9;(2 3 take x):=x}pow 20)0",
            0, 38197, "9|");
        due("x:=900 rho 0;({0::9;(1 + x):=5}pow 12)0",
            0, 34397, "9|");
        due("x:=400 rho enc 1;y:=400 rho 0;y[400]:='a';({0::9;x:=400 rho enc 1 2;(u v):=y + 1}pow 12)0",
            0, 2345, "9|");
        due("x:=500 rho 'b';({0::9;{x key 2 rho x}0}pow 30)0",
            0, 16647, "9|");
        due("x:=enc iota 900;({0::9;x pick x}pow 20)0",
            0, 39879, "9|");
        due("y:=900 rho 7;({0::9;900 part y;exe 'y y'}pow 9)0",
            0, 10025, "9|");
        due("f:={0::left;0=right:+'a';y:=(right rho 'x') self right-1};9({left f right}pow 3)30",
            0, 3758, "9|");
    }

    /** A QUOTED that is met again and again. */
    private static void quoted() {
        due("({0::0;'`1000|a`':0}pow 4000)0",
            0, 32009, "0|");
        due("f:=+ rank '`1000|a`';({f pow 0 right}pow 2500)0",
            0, 35014, "0|");
        due("f:=+ rank '`1000|a`';`350|f pow 0 `1",
            0, 3157, "1|");
        due("f:=+ rank ('`1000|a`');`350|f pow 0 `1",
            0, 3508, "1|");
        due("({exe '''`900|b`'''}pow 10)0",
            0, 36099, "bbbbbbbbbbbbbbbbbbbbbbbbbbbbbbbbbbbbbbbbbbbbbbbbbbbbbbbbbbbbbbbbbbbbbbbbbbbbbbbbbbbbbbbbbbbbbbbbbbbbbbbbbbbbbbbbbbbbbbbbbbbbbbbbbbbbbbbbbbbbbbbbbbbbbbbbbbbbbbbbbbbbbbbbbbbbbbbbbbbbbbbbbbbbbbbbbbbbbbbbbbbbbbbbbbbbbbbbbbbbbbbbbbbbbbbbbbbbbbbbbbbbbbbbbbbbbbbbbbbbbbbbbbbbbbbbbbbbbbbbbbbbbbbbbbbbbbbbbbbbbbbbbbbbbbbbbbbbbbbbbbbbbbbbbbbbbbbbbbbbbbbbbbbbbbbbbbbbbbbbbbbbbbbbbbbbbbbbbbbbbbbbbbbbbbbbbbbbbbbbbbbbbbbbbbbbbbbbbbbbbbbbbbbbbbbbbbbbbbbbbbbbbbbbbbbbbbbbbbbbbbbbbbbbbbbbbbbbbbbbbbbbbbbbbbbbbbbbbbbbbbbbbbbbbbbbbbbbbbbbbbbbbbbbbbbbbbbbbbbbbbbbbbbbbbbbbbbbbbbbbbbbbbbbbbbbbbbbbbbbbbbbbbbbbbbbbbbbbbbbbbbbbbbbbbbbbbbbbbbbbbbbbbbbbbbbbbbbbbbbbbbbbbbbbbbbbbbbbbbbbbbbbbbbbbbbbbbbbbbbbbbbbbbbbbbbbbbbbbbbbbbbbbbbbbbbbbbbbbbbbbbbbbbbbbbbbbbbbbbbbbbbbbbbbbbbbbbbbbbbbbbbbbbbbbbbbbbbbbbbbbbbbbbbbbbbbbbbbbbbbbbbbbbbbbbbbbbbbbbbbbbbbbbbbbbbbbbbbbbbbbbbbbbbbbbbbbbbbbbbbbbbbbbbbbbbbbbbbbbbbbbbbbbbbbbbbbbbbbbb|");
        due("x:=({right;'`1000|a`'}pow 15)0;tally x",
            0, 92, "1|");
        due("x:=({'`1000|a`'}pow 15)0;tally x;x match '`1000|a`'",
            0, 34066, "1000|1|");
        due("f:={'`1000|a`'};x:=(f pow 8) 0;(f 1) match x",
            0, 20051, "1|");
        due("x:=({(enc 'abc'),'d''e' '' 'f'}pow 400)0;x",
            0, 25622, "(abc) (d'e) () f|");
        due("({0::'abc';y:='d''e' '' 'f';+y+'a'}pow 800)0",
            0, 32009, "abc|");
        due("f:={0::'`300|r`';'`300|q`':0};tally(f pow 40)0;f 1",
            0, 24867, "300|rrrrrrrrrrrrrrrrrrrrrrrrrrrrrrrrrrrrrrrrrrrrrrrrrrrrrrrrrrrrrrrrrrrrrrrrrrrrrrrrrrrrrrrrrrrrrrrrrrrrrrrrrrrrrrrrrrrrrrrrrrrrrrrrrrrrrrrrrrrrrrrrrrrrrrrrrrrrrrrrrrrrrrrrrrrrrrrrrrrrrrrrrrrrrrrrrrrrrrrrrrrrrrrrrrrrrrrrrrrrrrrrrrrrrrrrrrrrrrrrrrrrrrrrrrrrrrrrrrrrrrrrrrrrrrrrrrrrrrrrrrrrrrrrrrrrrrrrrrrr|");
        due("f:={exe right};f'f:=+ rank ''`400|a`'';f pow 0 5';(f pow 0 5),(f pow 0 6)",
            0, 899, "5|5 6|");
        due("({f:=+ rank'`400|a`';x:='`400|b`';0::x,first right;g:=f pow 0;g +'a'}pow 15)0",
            0, 36164, "bbbbbbbbbbbbbbbbbbbbbbbbbbbbbbbbbbbbbbbbbbbbbbbbbbbbbbbbbbbbbbbbbbbbbbbbbbbbbbbbbbbbbbbbbbbbbbbbbbbbbbbbbbbbbbbbbbbbbbbbbbbbbbbbbbbbbbbbbbbbbbbbbbbbbbbbbbbbbbbbbbbbbbbbbbbbbbbbbbbbbbbbbbbbbbbbbbbbbbbbbbbbbbbbbbbbbbbbbbbbbbbbbbbbbbbbbbbbbbbbbbbbbbbbbbbbbbbbbbbbbbbbbbbbbbbbbbbbbbbbbbbbbbbbbbbbbbbbbbbbbbbbbbbbbbbbbbbbbbbbbbbbbbbbbbbbbbbbbbbbbbbbbbbbbbbbbbbbbbbbbbbbbbbbbbbbbbbbbbbbbbbbbbbbbbbbbbbbbbbbb|");
    }

    /** Much is made, and nothing of it is meant any more. */
    private static void withoutEvents() {
        due("(+pow 39000)0 0 0 0 0 0 rho 0",
            0, 39028, "[0 0 0 0 0 0]|");
        due("(+\"pow 39000)0 0 0 0 0 0 rho 0",
            0, 39029, "[0 0 0 0 0 0]|");
        due("a:=1000 0 0 0 0 0 rho 0;(rho a , rank 5 a);({rho a , rank 5 a}pow 15)1",
            0, 32469, "1000 0 0 0 0 0|1000 0 0 0 0 0|");
        due("w:=0 0 0 0 0 0 rho 0;f:=+pow(tally w`38|[;;;;;]`);`700|f `0",
            0, 34373, "0|");
        due("w:=0 0 0 0 0 0 rho 0;`390|w[;;;;;]:=`0;rho w",
            0, 426, "0 0 0 0 0 0|");
        due("x:=0;y:=0;({x+:=1;y same:=30 rho x;+/y}pow 100)0;x;y",
            0, 32292, "3000|100|100 100 100 100 100 100 100 100 100 100 100 100 100 100 100 100 100 100 100 100 100 100 100 100 100 100 100 100 100 100|");
        due("({right+1}pow 3300)0",
            0, 36309, "3300|");
        due(",/iota 100",
            0, 10507, "(1 2 3 4 5 6 7 8 9 10 11 12 13 14 15 16 17 18 19 20 21 22 23 24 25 26 27 28 29 30 31 32 33 34 35 36 37 38 39 40 41 42 43 44 45 46 47 48 49 50 51 52 53 54 55 56 57 58 59 60 61 62 63 64 65 66 67 68 69 70 71 72 73 74 75 76 77 78 79 80 81 82 83 84 85 86 87 88 89 90 91 92 93 94 95 96 97 98 99 100)|");
        due("{left,right}/iota 70",
            0, 10570, "(1 2 3 4 5 6 7 8 9 10 11 12 13 14 15 16 17 18 19 20 21 22 23 24 25 26 27 28 29 30 31 32 33 34 35 36 37 38 39 40 41 42 43 44 45 46 47 48 49 50 51 52 53 54 55 56 57 58 59 60 61 62 63 64 65 66 67 68 69 70)|");
        due("({left,right}\\iota 14)[14]",
            0, 3035, "(1 2 3 4 5 6 7 8 9 10 11 12 13 14)|");
        due("x:=iota 12;x{left*right}@x",
            0, 2076, "[12 12]1 2 3 4 5 6 7 8 9 10 11 12 2 4 6 8 10 12 14 16 18 20 22 24 3 6 9 12 15 18 21 24 27 30 33 36 4 8 12 16 20 24 28 32 36 40 44 48 5 10 15 20 25 30 35 40 45 50 55 60 6 12 18 24 30 36 42 48 54 60 66 72 7 14 21 28 35 42 49 56 63 70 77 84 8 16 24 32 40 48 56 64 72 80 88 96 9 18 27 36 45 54 63 72 81 90 99 108 10 20 30 40 50 60 70 80 90 100 110 120 11 22 33 44 55 66 77 88 99 110 121 132 12 24 36 48 60 72 84 96 108 120 132 144|");
        due("(3 4 rho iota 12)+ . {left*right}4 3 rho iota 12",
            0, 684, "[3 3]70 80 90 158 184 210 246 288 330|");
        due("({right,tally right}pow 60),1",
            0, 9943, "1 1 2 3 4 5 6 7 8 9 10 11 12 13 14 15 16 17 18 19 20 21 22 23 24 25 26 27 28 29 30 31 32 33 34 35 36 37 38 39 40 41 42 43 44 45 46 47 48 49 50 51 52 53 54 55 56 57 58 59 60|");
        due("'abacabad'{left,tally right}key iota 8",
            0, 125, "[4 2]a 4 b 2 c 1 d 1|");
        due("({enc right}rank 1)4 5 rho iota 20",
            0, 234, "(1 2 3 4 5) (6 7 8 9 10) (11 12 13 14 15) (16 17 18 19 20)|");
    }

    /** GUARDS stand and go as ever, also many of them, and in CALLS within CALLS. */
    private static void guards() {
        due("({`600|1::0;`0::right+1;+'a'}pow 30)0",
            0, 36519, "30|");
        due("f:={0=right:+'a';`90|1::0;`self right-1};({0::9;f right}pow 3)30",
            0, 9636, "9|");
        due("f:={0::x+:=1;5::+'b';3::8;right+'a'};x:=0;(f pow 500)0;x",
            0, 13519, "1|500|");
        due("f:={0::0 0;7::1000 rho enc 1 2;5::1000 rho enc 1 2;right+'a'};(f pow 300)0",
            0, 17712, "0 0|");
        due("f:={0::{5::7;+'a'}right;5::{9::0;+'b'}0;1 2+1 2 3};(f pow 500)0",
            0, 19013, "7|");
        due("f:={5::left,right;0=right:+'a';right self right-1};(1 f 5)",
            0, 161, "1 0|");
        due("{0::x;x:=iota right;{0::x;x:=right rho 'a';+x}5}3",
            0, 64, "aaaaa|");
        due("{5::y;y:=left{5::x;x:=left,right;+'a'}right;+'b'}~3",
            0, 53, "3 3|");
    }

    /** Values that NAMES mean, or that are wanted later, are the same behind long loops. */
    private static void whatIsMeantStays() {
        due("x:=(1 2)'abc'(enc 0 3 rho 'q');y:=0 2 rho enc 'ab' 1;z:=0;({0::0;z same:=x y;1000 rho z}pow 200)0;x;y;z;rho y;x match first z;y match 2 pick z",
            0, 22789, "0|(1 2) (abc) (([0 3]))|[0 2]|((1 2) (abc) (([0 3]))) ([0 2])|0 2|1|1|");
        due("x:=0 rho 0;({0::x;x,:=enc iota 1+tally x;1000 rho enc x}pow 25)0;x",
            0, 30719, "(1) (1 2) (1 2 3) (1 2 3 4) (1 2 3 4 5) (1 2 3 4 5 6) (1 2 3 4 5 6 7) (1 2 3 4 5 6 7 8) (1 2 3 4 5 6 7 8 9) (1 2 3 4 5 6 7 8 9 10) (1 2 3 4 5 6 7 8 9 10 11) (1 2 3 4 5 6 7 8 9 10 11 12) (1 2 3 4 5 6 7 8 9 10 11 12 13) (1 2 3 4 5 6 7 8 9 10 11 12 13 14) (1 2 3 4 5 6 7 8 9 10 11 12 13 14 15) (1 2 3 4 5 6 7 8 9 10 11 12 13 14 15 16) (1 2 3 4 5 6 7 8 9 10 11 12 13 14 15 16 17) (1 2 3 4 5 6 7 8 9 10 11 12 13 14 15 16 17 18) (1 2 3 4 5 6 7 8 9 10 11 12 13 14 15 16 17 18 19) (1 2 3 4 5 6 7 8 9 10 11 12 13 14 15 16 17 18 19 20) (1 2 3 4 5 6 7 8 9 10 11 12 13 14 15 16 17 18 19 20 21) (1 2 3 4 5 6 7 8 9 10 11 12 13 14 15 16 17 18 19 20 21 22) (1 2 3 4 5 6 7 8 9 10 11 12 13 14 15 16 17 18 19 20 21 22 23) (1 2 3 4 5 6 7 8 9 10 11 12 13 14 15 16 17 18 19 20 21 22 23 24) (1 2 3 4 5 6 7 8 9 10 11 12 13 14 15 16 17 18 19 20 21 22 23 24 25)|(1) (1 2) (1 2 3) (1 2 3 4) (1 2 3 4 5) (1 2 3 4 5 6) (1 2 3 4 5 6 7) (1 2 3 4 5 6 7 8) (1 2 3 4 5 6 7 8 9) (1 2 3 4 5 6 7 8 9 10) (1 2 3 4 5 6 7 8 9 10 11) (1 2 3 4 5 6 7 8 9 10 11 12) (1 2 3 4 5 6 7 8 9 10 11 12 13) (1 2 3 4 5 6 7 8 9 10 11 12 13 14) (1 2 3 4 5 6 7 8 9 10 11 12 13 14 15) (1 2 3 4 5 6 7 8 9 10 11 12 13 14 15 16) (1 2 3 4 5 6 7 8 9 10 11 12 13 14 15 16 17) (1 2 3 4 5 6 7 8 9 10 11 12 13 14 15 16 17 18) (1 2 3 4 5 6 7 8 9 10 11 12 13 14 15 16 17 18 19) (1 2 3 4 5 6 7 8 9 10 11 12 13 14 15 16 17 18 19 20) (1 2 3 4 5 6 7 8 9 10 11 12 13 14 15 16 17 18 19 20 21) (1 2 3 4 5 6 7 8 9 10 11 12 13 14 15 16 17 18 19 20 21 22) (1 2 3 4 5 6 7 8 9 10 11 12 13 14 15 16 17 18 19 20 21 22 23) (1 2 3 4 5 6 7 8 9 10 11 12 13 14 15 16 17 18 19 20 21 22 23 24) (1 2 3 4 5 6 7 8 9 10 11 12 13 14 15 16 17 18 19 20 21 22 23 24 25)|");
        due("x:=5 rho 0;y:=0;({x[right]:=enc iota right;0::right+1;y same:=300 rho enc right 'ab';1000 rho y}pow 5)1;x;3 take y",
            0, 398, "6|(1) (1 2) (1 2 3) (1 2 3 4) (1 2 3 4 5)|0 0 0|");
        due("(1 2)({0::enc right;100 rho enc 30 rho 1}pow 3)('abc'(4 5))",
            0, 575, "((((abc) (4 5))))|");
        due("x:=0;((iota 3)(4 5 6)),({x same:=right,right;y:=300 rho enc 1 2;x}pow 4)1;x",
            0, 7634, "(1 2 3) (4 5 6) 1 1 1 1 1 1 1 1 1 1 1 1 1 1 1 1|1 1 1 1 1 1 1 1 1 1 1 1 1 1 1 1|");
        due("a:=enc 'old';b:=a;({a same:=right a;0::right;300 rho enc a;1000 rho enc a}pow 4)1;a;b",
            0, 400, "1|1 (1 (1 (1 ((old)))))|(old)|");
        due("(3 2 rho iota 6){left+(3 2 rho 10)+{0::right;1000 rho enc right right}1000}(3 2 rho 10)",
            0, 150, "[3 2]1011 1012 1013 1014 1015 1016|");
        due("f:={g:={0::left right;500 rho enc left right right};0=right:enc left;(left,right)self right-1};1 f 4",
            0, 216, "(1 4 3 2 1)|");
        due("f:={x:=left{0::left;500 rho enc 1 2 3}right;0=right:x;(enc x),right self right-1};'ab' f 5",
            0, 461, "(ab) 5 4 3 2 1|");
        due("x:=iota 6;x[2 3]:=({0::0;500 rho enc 1 2 3}pow 50)9;(2 take x):=({0::enc 7 8;500 rho enc 1 2 3}pow 50)9;x",
            0, 3780, "(7 8) (7 8) 0 4 5 6|");
        due("x:=1;f:={x,:=right;0::right;500 rho enc 1 2 3};(f\"iota 9),f/3 4 5;x",
            0, 699, "1 2 3 4 5 6 7 8 9 5|1 5 5 1 2 3 4 5 6 7 8 9|");
        due("s:={right,{0::0;500 rho enc 1 2 3}0}\"(1 2)(3 4)5;s;(rev s)({0::left;500 rho enc 1 2 3}@)s",
            0, 617, "(1 2 0) (3 4 0) (5 0)|[3 3](5 0) (5 0) (5 0) (3 4 0) (3 4 0) (3 4 0) (1 2 0) (1 2 0) (1 2 0)|");
        due("exe 'x:=({0::1;500 rho enc 1 2 3}pow 20)0;y:=''`250|ab`'';x';tally y;3 take y",
            0, 2679, "1|500|aba|");
    }

    /** The HOUSE keeps sixty values of the greatest SIZE, each item with a room of its own, and texts go on. */
    private static void fullHouse() {
        House x = new House();
        due(x, "e:=0 0 0 0 0 0 rho 0;u:=1000 rho enc e",
            0, 2035, "");
        due(x, "n0:=+u;n1:=+u;n2:=+u;n3:=+u;n4:=+u;n5:=+u;",
            0, 18030, "");
        due(x, "n6:=+u;n7:=+u;n8:=+u;n9:=+u;n10:=+u;n11:=+u;",
            0, 18030, "");
        due(x, "n12:=+u;n13:=+u;n14:=+u;n15:=+u;n16:=+u;n17:=+u;",
            0, 18030, "");
        due(x, "n18:=+u;n19:=+u;n20:=+u;n21:=+u;n22:=+u;n23:=+u;",
            0, 18030, "");
        due(x, "n24:=+u;n25:=+u;n26:=+u;n27:=+u;n28:=+u;n29:=+u;",
            0, 18030, "");
        due(x, "n30:=+u;n31:=+u;n32:=+u;n33:=+u;n34:=+u;n35:=+u;",
            0, 18030, "");
        due(x, "n36:=+u;n37:=+u;n38:=+u;n39:=+u;n40:=+u;n41:=+u;",
            0, 18030, "");
        due(x, "n42:=+u;n43:=+u;n44:=+u;n45:=+u;n46:=+u;n47:=+u;",
            0, 18030, "");
        due(x, "n48:=+u;n49:=+u;n50:=+u;n51:=+u;n52:=+u;n53:=+u;",
            0, 18030, "");
        due(x, "z:=0;(+pow 38000)e",
            0, 38011, "[0 0 0 0 0 0]|");
        due(x, "z same:=({0::right;1000 rho enc 1 2;}pow 1000)5;z",
            0, 25017, "5|");
        due(x, "a:=1000 0 0 0 0 0 rho 0;({rho a , rank 5 a}pow 15)1",
            0, 30453, "1000 0 0 0 0 0|");
        due(x, "({0::0;u+u,1;}pow 10)0",
            0, 10139, "0|");
        due(x, "n3:=+n4;n5:=+n6;n7:=+n8;n3 match n5;n0[999]:=enc 7;n0 match n1;n0[999 1000]",
            0, 15046, "1|0|7 ([0 0 0 0 0 0])|");
        due(x, "({0::0;'`1000|a`':0}pow 3000)0",
            0, 24009, "0|");
        due(x, "({0::0;y:=+u;+'a'}pow 8)0;tally n53;n53 match n0;n53 match n1",
            0, 29154, "0|1000|0|1|");
        // much that is little each time, in one PHRASE of each of the CALLS that are open at once
        due(x, "m:=118 0 rho 0;35{0=left:e;(left - 1)self `112|{0::e;take/m}`e}e",
            0, 39962, "[0 0 0 0 0 0]|");
        due(x, "m:=26 0 rho 0;36{0=left:e;(left - 1)self `108|{0::e;take/m}`right}e",
            0, 39663, "[0 0 0 0 0 0]|");
        due(x, "36{0=left:e;(left - 1)self {e}`210|e[;;;;;] `}e",
            0, 31119, "[0 0 0 0 0 0]|");
    }

    /** What a run leaves is there in the next one. */
    private static void manyRuns() {
        House x = new House();
        due(x, "x:=({0::enc right;1000 rho enc 1 2}pow 5)'abc';f:={0::'`300|z`';1000 rho enc right right};x",
            0, 267, "(((((abc)))))|");
        due(x, "y:=f 1;(tally y),({tally f right}pow 9)0;x",
            0, 6657, "300 300|(((((abc)))))|");
        due(x, "f:={0::g:={5};1000 rho enc right right};h:=+ rank '`500|z`';(h pow 0 7)(h pow 0 8);y match '`300|z`'",
            0, 639, "7 8|1|");
        due(x, "x:='ab''c';({0::0;1000 rho enc x}pow 30)0;x 'ab''c'",
            0, 869, "0|(ab'c) (ab'c)|");
        due(x, "f 3",
            2, 29, "");
        due(x, "x;x match 'ab''c';({h pow 0 right}pow 100)x;tally y",
            0, 2936, "ab'c|1|ab'c|300|");
    }

    /** "An object is used for at most 512 calls": what one run took up is there for the next ones. */
    private static void fiveHundredCalls() {
        House x = new House();
        for (int i = 0; i < 26; i++) {
            due(x, "x:=1000 rho enc 0 0 rho 0;y:=+x;z:=+y;f:={+x};v:=f 0;({0::0;x , x}pow 9)0;tally v",
                0, 31157, "0|1000|");
        }
        for (int i = 0; i < 10; i++) {
            House.due("the same VIEW", x.view("v"), 1);
            House.due("SIZE", x.h.about(2), 1000);
        }
    }
}
