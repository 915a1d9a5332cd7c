/** Promise 4's operators, STEPS and what is open at once: the heads 8 and 9 of the document's Terms. */
public final class OperatorsTest {
    private static final int SYNTAX = 1;
    private static final int RANK = 3;
    private static final int LENGTH = 4;
    private static final int DOMAIN = 5;
    private static final int INDEX = 6;
    private static final int LIMIT = 7;
    private static final int STEPS = 8;

    public static void main(String[] args) {
        reduce();
        windows();
        running();
        each();
        outerAndInner();
        ranks();
        power();
        keys();
        steps();
        open();
        House.end();
    }

    private static void shows(String text, String want) {
        House.shows(text, want);
    }

    private static void fails(String text, int event) {
        House.fails(text, event);
    }

    private static void spends(String text, int steps) {
        House.spends(text, steps);
    }

    private static void reduce() {
        shows("+/1 2 3 ; -/1 2 3 ; +/5 ; +/2 3 rho iota 6 ; +/[1] 2 3 rho iota 6", "6|2|5|6 15|5 7 9");
        shows("{left rot right}/ 1 , enc 1 2 3", "(2 3 1)");
        shows(",/1 2 3 ; +/(1 2) (3 4)", "(1 2 3)|(4 6)");
        shows("+/, 7 ; +/, enc 1 2", "7|(1 2)");
        shows("+/'' ; -/'' ; |/'' ; or/'' ; gcd/'' ; </'' ; >/'' ; /=/''", "0|0|0|0|0|0|0|0");
        shows("*/'' ; %/'' ; ^/'' ; !/'' ; and/'' ; lcm/'' ; <=/'' ; >=/'' ; =/''", "1|1|1|1|1|1|1|1|1");
        shows("min/'' ; max/'' ; (+)/'' ; f := min ; f/''", "2000000000|_2000000000|0|2000000000");
        fails(",/''", DOMAIN);
        fails("{right}/''", DOMAIN);
        fails("floor/''", DOMAIN);
        fails("+/ /''", DOMAIN);
        fails(",[1]/''", DOMAIN);
        shows("rho ,/0 0 rho 1 ; +/3 0 rho 1 ; rho +/0 3 rho 'a' ; first +/0 3 rho 'a'", "0|0 0 0|0| ");
        fails("+/[1] 5", INDEX);
        fails("+/[2] 1 2", INDEX);
        fails("+/['a'] 1 2", DOMAIN);
        fails("+/[1 2] 1 2", LENGTH);
        fails("+/1 'a'", DOMAIN);
        fails("floor/1 2", SYNTAX);
        shows("floor/, 1 ; floor/5", "1|5");
        fails(",/600 rho enc 1 1", LIMIT);
    }

    private static void windows() {
        shows("2 +/1 2 3 4 ; 1 +/1 2 ; 3 +/1 2 3 ; rho 4 +/1 2 3", "3 5 7|1 2|6|0");
        shows("_2 -/1 5 2 ; 2 -/1 5 2 ; 0 +/1 2 ; 0 */''", "4 _3|_4 3|0 0 0|1");
        shows("2 +/[1] 3 2 rho iota 6", "[2 2]4 6 8 10");
        shows("(1 1 rho 2) +/1 2 3", "3 5");
        fails("2 +/5", RANK);
        fails("'a' +/5", RANK);
        fails("2 +/[1] 5", INDEX);
        fails("1 2 +/1 2", LENGTH);
        fails("1r2 +/1 2", DOMAIN);
        fails("4 +/1 2", LENGTH);
        fails("_4 +/1 2", LENGTH);
        fails("0 ,/1 2", DOMAIN);
        fails("0 +/iota 1000", LIMIT);
        shows("first 3 +/'ab'", " ");
    }

    private static void running() {
        shows("+\\1 2 3 ; -\\1 2 3 ; +\\5 ; rho +\\'' ; +\\[1] 2 2 rho iota 4", "1 3 6|1 _1 2|5|0|[2 2]1 2 4 6");
        fails("1 +\\1 2", SYNTAX);
        fails("+\\[1] 5", INDEX);
        shows("first +\\'' ; ,\\1 2", " |1 (1 2)");
    }

    private static void each() {
        shows("tally\" (1 2) 'abc' 5 ; 1 2 ,\" 3 4 ; 1 ,\" 3 4 ; {enc right}\" 1 2", "2 3 1|(1 3) (2 4)|(1 3) (1 4)|1 2");
        fails("1 2 ,\" 1 2 3", LENGTH);
        fails("1 2 ,\" 2 2 rho 1", RANK);
        shows("rho {1 + 'a'}\" '' ; first {'a'}\" '' ; 5 {1}\" 0 3 rho 1", "0|0|[0 3]");
        shows("(, 1) ,\" 3 4 ; (enc 1 2) ,\" 3 4 ; 3 4 ,\" enc 1 2", "(1 3) (1 4)|(1 2 3) (1 2 4)|(3 1 2) (4 1 2)");
        shows("-~ 5 ; 2 -~ 5 ; ,~ 1 2", "0|3|1 2 1 2");
    }

    private static void outerAndInner() {
        shows("1 2 +@ 3 4 5 ; 1 +@ 2 ; rho 1 2 ,@ 2 2 rho 1 ; rho '' +@ 1 2", "[2 3]4 5 6 5 6 7|3|2 2 2|0 2");
        fails("+@ 1", SYNTAX);
        fails("(40 rho 1) +@ 40 rho 1", LIMIT);
        fails("(1 1 1 1 rho 1) +@ 1 1 1 rho 1", LIMIT);
        shows("1 2 3 +.* 4 5 6 ; (2 2 rho iota 4) +.* 2 2 rho iota 4 ; 2 +.* 3", "32|[2 2]7 10 15 22|6");
        shows("2 +.* 1 2 3 ; 1 2 3 +.* 2 ; (, 2) +.* 1 2 3 ; (2 3 rho 1) +.* 5", "12|12|12|15 15");
        shows("1 2 3 +.* 1 2 rho 5 6 ; (2 1 rho 5 6) +.* 1 2 3", "30 36|30 36");
        shows("'' +.* '' ; 5 +.* '' ; rho (0 2 rho 1) +.* 2 3 rho 1 ; 1 2 ,.+ 3 4", "0|0|0 3|(4 6)");
        fails("1 2 +.* 1 2 3", LENGTH);
        fails("'' ,.+ ''", DOMAIN);
        fails("+.* 1", SYNTAX);
        fails("(1 1 1 1 2 rho 1) +.* 2 1 1 1 rho 1", LIMIT);
        shows("(1 1 1 2 rho 1) +.* 2 1 1 1 rho 1", "[1 1 1 1 1 1]2");
    }

    private static void ranks() {
        shows("{enc right} rank 1 2 2 rho iota 4 ; tally rank 1 2 3 rho 1 ; tally rank _1 2 3 rho 1", "(1 2) (3 4)|3 3|3 3");
        shows("rev rank 1 2 2 rho iota 4 ; iota rank 0 1 3 ; {tally right} rank 5 1 2", "[2 2]2 1 4 3|[2 3]1 0 0 1 2 3|2");
        shows("1 2 + rank 0 3 4 ; 1 2 , rank (0 1) 2 2 rho 5 6 7 8 ; 1 2 , rank 1 2 2 rho 5 6 7 8",
            "4 6|[2 3]1 5 6 2 7 8|[2 4]1 2 5 6 1 2 7 8");
        shows("rho {nope} rank 1 0 3 rho 'a' ; first {nope} rank 1 0 3 rho 'a'", "0|0");
        shows("rho {right} rank 1 2 0 rho 'a' ; first {right} rank 1 2 0 rho 'a'", "2 0| ");
        fails("+ rank (1 2) 1 2", LENGTH);
        fails("1 + rank (1 2 3) 1", LENGTH);
        fails("+ rank 1r2 1", DOMAIN);
        fails("+ rank 'a' 1", DOMAIN);
        fails("1 2 + rank 0 2 2 rho 1", RANK);
        fails("1 2 + rank 0 1 2 3", LENGTH);
        shows("1 2 3 + rank 0 5 ; 5 + rank 0 1 2 3 ; {rho right} rank 2 2 3 4 rho 1", "6 7 8|6 7 8|[2 2]3 4 3 4");
        shows("(2 2 rho iota 4) , rank 1 5 6 ; 5 6 , rank 1 2 2 rho iota 4", "[2 4]1 2 5 6 3 4 5 6|[2 4]5 6 1 2 5 6 3 4");
        shows("(2 2 rho iota 4) , rank 1 5 6 7 ; {tally right} rank _2 1 2 3", "[2 5]1 2 5 6 7 3 4 5 6 7|1 1 1");
        shows("depth rank 0 1 (2 3) ; tally rank 0 (1 2) (3 4)", "0 2|1 1");
    }

    private static void power() {
        shows("{right * 2} pow 10 1 ; + pow 0 'a' ; 3 + pow 4 1 ; {right , 1} pow (, 2) 5", "1024|a|13|5 1 1");
        fails("+ pow (1 2) 1", LENGTH);
        fails("+ pow '' 1", LENGTH);
        fails("+ pow _1 1", DOMAIN);
        fails("+ pow 1r2 1", DOMAIN);
        fails("+ pow 2000000000 1", STEPS);
    }

    private static void keys() {
        shows("{enc right} key 'hello' ; {tally right} key 'hello' ; , key 'aba'", "(1) (2) (3 4) (5)|1 1 2 1|[2 3]a 1 3 b 2  ");
        shows("'aba' {+/right} key 1 2 3 ; (1 2) 5 (1 2) {enc right} key 'xyz'", "4 2|(xz) (y)");
        shows("rho {nope} key '' ; first {nope} key ''", "0|0");
        shows("{enc left right} key 5", "(5 (1))");
        fails("{right} key 2 2 rho 1", RANK);
        fails("1 2 {right} key 1 2 3", LENGTH);
        fails("(1 2 rho 1) {right} key 1 2", RANK);
    }

    private static void steps() {
        spends("", 0);
        spends(" ; ;\n", 0);
        spends("1", 2);
        spends("1 2 3", 7);
        spends("x := 1", 4);
        spends("x := 1 2", 8);
        spends("+ 1", 1 + 2 + 2 + 1);
        spends("1 + 2", 1 + 3 + 3 + 1);
        spends("(1)", 3);
        spends("(((1)))", 5);
        spends("()", 2);
        spends("1 2[1]", 1 + 2 + 3);
        spends("x := 1 2 ; x[1]", 8 + 1 + 2 + 4 + 1);
        spends("x := 1 2 ; x[]", 8 + 1 + 1 + 3 + 2);
        spends("x := 1 2 ; x[1] := 3", 8 + 6);
        spends("x := 1 2 ; x + := 3", 8 + 3 + 4 + 2 + 2);
        spends("x := 1 2 ; (x) := 3", 8 + 4);
        spends("x := 1 2 ; (1 take x) := 3", 8 + 3 + 2 + 2 + 2 + 4 + 1 + 2);
        spends("(a b) := 1 2", 8);
        spends("f := +", 3);
        spends("f := + ; f 1", 3 + 3 + 1 + 2 + 1);
        spends("f := + ; g := f ; g 1", 3 + 4 + 3 + 2 + 2 + 1);
        spends("{right} 5", 1 + 2 + 2 + 2 + 1);
        spends("{0 : 1 ; 5} 5", 1 + 2 + 2 + 2 + 2 + 1);
        spends("{5 :: 7 ; right + 'a'} 1", 16);
        spends("+/1 2 3", 1 + 3 + 3 + 2 + 4 + 1 + 4 + 4 + 1);
        spends("+/5", 1 + 1 + 2 + 2 + 1);
        spends("+\"1 2", 1 + 2 + 2 + 2 + 3 + 2 + 3 + 3 + 2);
        spends("1 +@ 2", 1 + 1 + 2 + 1 + 3 + 1 + 4 + 1);
        spends("1 +~ 2", 1 + 1 + 2 + 1 + 3 + 4 + 1);
        spends("+ pow 2 5", 1 + 1 + 2 + 1 + 2 + 3 + 3 + 1);
        spends("+ rank 0 5", 1 + 1 + 2 + 1 + 2 + 1 + 3 + 1);
        spends("1 + . * 2", 1 + 1 + 3 + 1 + 3 + 1 + 4 + 1);
        spends("+ key 5", 1 + 1 + 2 + 2 + 1 + 4 + 1);
        spends(",/''", 1 + 1 + 2 + 1);
        spends("+/''", 1 + 1 + 2 + 1 + 1 + 1);
        spends("rev[1] 1 2", 1 + 2 + 1 + 1 + 2 + 3 + 2);
        spends("exe '1'", 1 + 2 + 2 + 2 + 1);
        spends("1 floor 2", 4);
        spends("{+ right} pow 2000000000 5", 7 + 9 * ((40000 - 7) / 9) + 5);
        House x = new House();
        House.due("all STEPS", x.run("+ pow 13330 1 ; 1"), 0);
        House.due("all STEPS", x.h.steps(), 40000);
        House.due("one more", x.run("+ pow 13330 1 ; 1 ; ; 1"), STEPS);
        House.due("one more", x.h.steps(), 40000);
        House.due("one more", x.h.at(), 3);
        House.due("STEPS", x.run("1 ; {1 + right} pow 2000000000 0 ; 2"), STEPS);
        House.due("STEPS at", x.h.at(), 1);
        House.due("shown ahead", x.shown(), "1\n");
        House.due("the next run has its own", x.run("1"), 0);
    }

    private static String many(String s, int n) {
        StringBuilder b = new StringBuilder();
        for (int i = 0; i < n; i++) b.append(s);
        return b.toString();
    }

    private static void open() {
        shows(many("(", 40) + "1" + many(")", 40), "1");
        fails(many("(", 41) + "1" + many(")", 41), LIMIT);
        fails(many("(", 40) + "()" + many(")", 40), 2);
        shows("x := 1 2 ; " + many("x[", 40) + "1" + many("]", 40), "1");
        fails("x := 1 2 ; " + many("x[", 41) + "1" + many("]", 41), LIMIT);
        shows("+" + many("\"", 40) + " 1", "1");
        fails("+" + many("\"", 41) + " 1", LIMIT);
        shows("{0 = right : 0 ; self right - 1} 39", "0");
        shows("{0 = right : n := 4 ; m := right ; self right - 1} 39", "4");
        shows("k := 3 ; {0 = right : k ; self right - 1} 39", "3");
        shows("{7 :: right ; 0 = right : self 5 ; self right - 1} 39", "0");
        shows("5 {0 = right : left ; left self right - 1} 39", "5");
        fails("{0 = right : 0 ; self right - 1} 40", LIMIT);
        shows("{0 = right : 0 ; exe 'self right - 1'} 19", "0");
        fails("{0 = right : 0 ; exe 'self right - 1'} 20", LIMIT);
        shows("{0 = right : 0 ; self\" right - 1} 19", "0");
        fails("{0 = right : 0 ; self\" right - 1} 20", LIMIT);
        StringBuilder names = new StringBuilder("f0 := +");
        for (int i = 1; i <= 41; i++) names.append(" ; f").append(i).append(" := f").append(i - 1);
        House.due("a NAME's function that is worked out", new House().run(names.toString()), LIMIT);
        House x = new House();
        x.run(names.toString());
        House.due("at", x.h.at(), 41);
        // what a guard ends is open no more
        shows("{7 :: " + many("(", 38) + "1" + many(")", 38) + " ; self right} 1", "1");
        shows("{7 :: 3 ; " + many("(", 41) + "1" + many(")", 41) + "} 1 ; " + many("(", 40) + "1" + many(")", 40), "3|1");
    }
}
