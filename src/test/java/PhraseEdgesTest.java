/** Head 3 of the document's Terms, sentence by sentence: how PHRASES are worked out, VALUE, SYNTAX, INDICES. */
public final class PhraseEdgesTest extends House {
    /** By head 6 and 7: what takes one argument only, two only, and either. */
    private static final String[] ONE = {"floor", "ceil", "not", "tally", "depth", "first", "enc", "mix", "split", "enl", "rev",
        "uniq", "up", "down", "where", "fmt", "exe"};
    private static final String[] TWO = {"^", "=", "/=", "<", "<=", ">", ">=", "min", "max", "and", "or", "gcd", "lcm", "rot",
        "take", "drop", "rep", "expand", "mem", "find", "pick", "match", "without", "union", "inter", "part", "penc", "enco", "deco"};
    private static final String[] EITHER = {"+", "-", "*", "%", "|", "!", "?", ",", "rho", "tr", "iota", "same"};

    public static void main(String[] args) {
        fromTheEnd();
        operands();
        vectors();
        vectorsAreMadeLast();
        applicationsComeLater();
        textsOfNames();
        functions();
        functionsAtTheEnd();
        emptyParens();
        indicesFromTheLast();
        onceOrNotAtAll();
        value();
        wrongThings();
        wrongKinds();
        operatorsWithout();
        axes();
        axesThatAreNone();
        wrongNumbersOfArguments();
        choosing();
        choosingWrongly();
        choosingNothing();
        end();
    }

    /** "the first one that is met ends what is done", from the end. */
    private static void fromTheEnd() {
        shows("2 * 3 + 4 ; - 5 - 3 ; 10 - 4 - 3", "14|_2|9");
        fails("nope + 1 % 0", DOMAIN);
        fails("(1 % 0) + nope", VALUE);
        fails("nope % 0", VALUE);
        fails("(1 1 + 1 1 1) + 1 % 0", DOMAIN);
        fails("1 + 1 1 + 1 1 1", LENGTH);
        House x = new House();
        due("what stands behind an EVENT is not done", x.run("1 ; 2 + 'a' ; y := 3 ; 4"), DOMAIN);
        due("shown", x.shown(), "1\n");
        due("NAMES", x.h.told(0), 0);
        due("at", x.h.at(), 1);
    }

    private static void operands() {
        shows("5 ; 'ab' ; x := 6 ; x ; (7) ; ((8)) ; {right} 9 ; 1 {left} 2", "5|ab|6|7|8|9|1");
        shows("(5 6)[2] ; 'ab'[1] ; {right[2]} 5 6 ; 5 6 {left[1]} 1 ; x := 3 4 ; x[2] ; (((5 6)))[1]", "6|a|6|5|4|5");
        shows("(5 6 7)[2 3][1] ; (5 6 7)[2 3][]", "6|6 7");
        fails("(1 (2 3))[2][1]", RANK);
        fails("{self[1]} 5", SYNTAX);
    }

    /** "together they are the VALUE: one is itself, more are the VECTOR of them, BOXED". */
    private static void vectors() {
        shows("rho 5 ; rho 5 6 ; 1 'a' 'bc' (2 3) ; rho (5) 6 (7)", "|2|1 a (bc) (2 3)|3");
        shows("x := 1 2 ; x x ; x 3 ; (x) ; rho (x)", "(1 2) (1 2)|(1 2) 3|1 2|2");
        shows("1 2 + 3 4 ; 1 2 , 'a' 5", "4 6|1 2 a 5");
        shows("1 (enc 2 3) (enc 4)", "1 ((2 3)) 4");
        about("q := 5 (, 5)", 1, 2, 3, 2);
        // "An OPERAND right behind rank or pow is theirs, it stands beside none."
        shows("{right , 1} pow 2 5 6 ; + rank 0 5 6 7 ; {right , 0} pow 1 (2 3) 4", "5 6 1 1|5 6 7|(2 3) 4 0");
        shows("1 2 + rank 0 5 6 ; x := 2 3 ; {right , 1} pow x[1] 9", "6 8|9 1 1");
        fails("+ rank 0", SYNTAX);
        fails("+ pow 2", SYNTAX);
        fails("5 6 pow 2", SYNTAX);
        shows("tally " + many("1 ", 1000), "1000");
        fails(many("1 ", 1001), LIMIT);
    }

    /** "The VECTOR of OPERANDS is made when what stands ahead of them was met". */
    private static void vectorsAreMadeLast() {
        String great = "(999 rho 1) 1";
        fails(great, LIMIT);
        fails("- " + great, LIMIT);
        fails("nope " + great, VALUE);
        fails("(+ nope) " + great, VALUE);
        fails("(1 % 0) " + great, DOMAIN);
        fails("rev[nope] " + great, VALUE);
        fails("rev[1 % 0] " + great, DOMAIN);
        fails("+/[] " + great, SYNTAX);
        fails("+ rank nope " + great, VALUE);
        fails("+ pow (1 % 0) " + great, DOMAIN);
        fails("() " + great, VALUE);
        fails(". " + great, SYNTAX);
        fails("1 := " + great, SYNTAX);
        fails("x := " + great, LIMIT);
        // likewise the left ones, ahead of the function
        fails(great + " - 1", LIMIT);
        fails("nope " + great + " - 1", VALUE);
        fails("(1 % 0) - " + great + " - 1", LIMIT);
        fails("(- nope) - " + great + " - 1", LIMIT);
        fails("rev[nope] " + great + " - 1", VALUE);
        ends("- " + great, LIMIT, 1 + 1 + 1 + 3 + 3 + 999 + 1);
    }

    /** "likewise ahead of the application of the function behind it". */
    private static void applicationsComeLater() {
        fails("nope - 'a'", VALUE);
        fails("nope 1 - 'a'", VALUE);
        fails("(+ nope) - 'a'", VALUE);
        fails("rev[nope] - 'a'", VALUE);
        fails("rev[] - 'a'", SYNTAX);
        fails("+[1] - 'a'", SYNTAX);
        fails("() - 'a'", VALUE);
        fails(". - 'a'", SYNTAX);
        fails("5 := - 'a'", SYNTAX);
        fails("x := - 'a'", DOMAIN);
        // the rest of a FUNCTION is not met yet
        fails("nope/ - 'a'", DOMAIN);
        fails("(+ nope) . - - 'a'", DOMAIN);
        fails("1 (2 % 0) - % 0", DOMAIN);
    }

    /** "The text of a NAME's function .. is worked out behind that, as part of its FUNCTION." */
    private static void textsOfNames() {
        String f = "g := + ; f := g ; g := 1 ; ";
        fails(f + "f 5", SYNTAX);
        fails(f + "f (999 rho 1) 1", LIMIT);
        fails(f + "f - 'a'", DOMAIN);
        fails(f + "nope f 5", SYNTAX);
        shows("f := + ; 1 f 2 ; f := - ; 1 f 2", "3|_1");
        shows("f := + ; (exe 'f := - ; 5') f 2", "7");
        // the NAME is met ahead of the application of exe
        shows("f := + ; 5 f exe 'f := - ; 2'", "7");
        shows("f := + ; g := f ; f := - ; 5 g 2", "3");
    }

    /** "A FUNCTION is a PRIMARY, perhaps an AXIS, and any number of OPERATORS behind". */
    private static void functions() {
        shows("+/1 2 3 ; ,//, enc 1 2 ; +/\"\" , enc (1 2) 3", "6|(1 2)|(3 3)");
        shows("1 2 +.* 3 4 ; 1 2 +.-.* 3 4 ; (+) 5 ; (+/)\" (1 2) (3 4)", "11|_5|5|3 7");
        shows("{right + 1}\" 1 2 ; f := - ; f\" 1 2 ; 5 f~ 3", "2 3|_1 _2|_2");
        shows("+/[1] 2 2 rho iota 4 ; +/[1]\" , enc 2 2 rho iota 4 ; 1 2 ,[1].+ 3 4", "4 6|(4 6)|(4 6)");
        shows("{0 = right : 9 ; self right - 1} 2 ; + rank 0 rank 1 2 2 rho 1 2 3 4", "9|[2 2]1 2 3 4");
        shows("3 -~~ 10 ; 3 -~ 10", "_7|7");
    }

    /** "Without an OPERAND at its end a PHRASE is one FUNCTION and comes to it"; a STATEMENT is a value. */
    private static void functionsAtTheEnd() {
        shows("f := (+) ; 1 f 2 ; f := ((+/)) ; f 1 2", "3|3");
        ends("+", SYNTAX, 2);
        ends("{right}", SYNTAX, 2);
        ends("f := +", 0, 3);
        ends("1 +", SYNTAX, 3);
        ends("nope +", VALUE, 3);
        ends("- +", SYNTAX, 3);
        ends("(1 2) +", SYNTAX, 7);
        ends("() +", VALUE, 3);
        ends("x[1] +", VALUE, 4);
        ends("5 := +", SYNTAX, 3);
        ends("x := f := +", SYNTAX, 3);
        ends("1 f := +", SYNTAX, 3);
        ends("(f) := +", SYNTAX, 3);
        ends("f[1] := +", SYNTAX, 3);
        ends("f := x := + 1", 0, 1 + 1 + 1 + 2 + 1 + 2 + 2);
    }

    /** "An EMPTY ( ) is VALUE, wherever it is met." */
    private static void emptyParens() {
        ends("()", VALUE, 2);
        ends("( )", VALUE, 2);
        ends("1 ()", VALUE, 2);
        ends("() 1", VALUE, 3);
        ends("() + 1", VALUE, 4);
        ends("+ ()", VALUE, 2);
        ends("+ rank () 1", VALUE, 3);
        ends("()[1]", VALUE, 3);
        ends("x[()]", VALUE, 2);
        ends("rev[()] 1", VALUE, 3);
        ends("(())", VALUE, 3);
        ends("{()} 1", VALUE, 1 + 1 + 1 + 2 + 2);
        ends("() := 5", SYNTAX, 3);
        ends("()/ 1", VALUE, 4);
        shows("{2 :: 7 ; ()} 1", "7");
    }

    /** "Of [ ] the INDICES .. are worked out from the last to the first, then what is ahead of it". */
    private static void indicesFromTheLast() {
        shows("x := 2 2 rho iota 4 ; x[a := 2 ; a := 1] ; a", "3|2");
        fails("x := 2 2 rho 1 ; x[nope ; 1 % 0]", DOMAIN);
        fails("x := 2 2 rho 1 ; x[1 % 0 ; nope]", VALUE);
        fails("nope[1 % 0]", DOMAIN);
        fails("(1 % 0)[nope]", VALUE);
        shows("x := 5 6 ; x[(x := 7 8 9)[1] - 5]", "8");
        shows("x := 5 6 ; y := 1 ; y , x[y := 2]", "2 6");
        shows("x := 5 6 ; y := 1 ; x[y := 2] , y", "6 1");
        fails("rev[1 % 0] nope", VALUE);
        fails("nope/[1 % 0] 5", DOMAIN);
        shows("x := 1 2 3 ; x[x[x[2]]]", "2");
    }

    /** "Of a ( ) that is met the PHRASE is worked out once. Of { } nothing is worked out till it is applied." */
    private static void onceOrNotAtAll() {
        House x = new House();
        due("a ( )", x.run("(? 10) + 0"), 0);
        due("LINK went on once", x.h.told(6), 16807);
        x.h.set(1, 1);
        due("a ( ) that comes to a function", x.run("f := ((exe '? 10 ; 5') + ) ; 1"), SYNTAX);
        x.h.set(1, 1);
        due("a ( ) of an OPERAND of rank", x.run("+ rank (? 10) 5"), 0);
        due("LINK went on once", x.h.told(6), 16807);
        shows("f := {1 % 0} ; g := {nope nope} ; 1", "1");
        fails("f := {1 % 0} ; f 1", DOMAIN);
        ends("{1 % 0} pow 0 5", 0, 1 + 1 + 1 + 1 + 1 + 2 + 1);
        shows("{nope}\" '' ; rho {nope} rank 0 0 3 rho 1", "|0 3");
    }

    /** "VALUE: a NAME that means nothing, left, right, self where there is none, a PHRASE that has to come to a value .." */
    private static void value() {
        ends("nope", VALUE, 2);
        ends("nope 1", VALUE, 3);
        ends("nope 1 + 2", VALUE, 5);
        ends("left", VALUE, 2);
        ends("right", VALUE, 2);
        ends("self 1", VALUE, 3);
        ends("self", VALUE, 2);
        ends("{left} 1", VALUE, 1 + 1 + 1 + 2 + 2);
        shows("1 {left} 2 ; {right} 2", "1|2");
        fails("f := left ; 1", VALUE);
        fails("f := + rank right ; {f right} 1", VALUE);
        fails("{f := self ; {f right} 0} pow 1 5", LIMIT);
        fails("(f := +)", VALUE);
        fails("1 + (f := +)", VALUE);
        fails("(1 2)[f := +]", VALUE);
        fails("rev[f := +] 1", VALUE);
        fails("+ rank (f := +) 1", VALUE);
        fails("{(f := +) : 1} 1", VALUE);
        fails("{f := + : 1} 1", VALUE);
        fails("{f := + :: 1 ; 2} 1", VALUE);
        fails("{: 1} 1", VALUE);
        fails("{:: 1 ; 2} 1", VALUE);
        fails("{1 :} 1", VALUE);
        fails("{1 : f := +} 1", VALUE);
        fails("x := 1 2 ; (() x) := 1", VALUE);
    }

    /** "SYNTAX: whatever else is not as told, when it is met: what is neither OPERAND nor FUNCTION nor := where one has to be". */
    private static void wrongThings() {
        ends("x :=", SYNTAX, 1);
        ends(":=", SYNTAX, 1);
        ends(":= 5", SYNTAX, 3);
        ends("x := := 5", SYNTAX, 3);
        ends("x := / 5", SYNTAX, 3);
        ends("5 x := 6", SYNTAX, 1 + 1 + 1 + 1 + 1);
        ends("(5) x := 6", SYNTAX, 1 + 1 + 1 + 1 + 1 + 1);
        ends("nope x := 6", VALUE, 1 + 1 + 1 + 1 + 1);
        ends("5 / 6", SYNTAX, 4);
        ends("/", SYNTAX, 2);
        ends("[1]", SYNTAX, 2);
        ends("[1] 5", SYNTAX, 3);
        ends("5 [1] [2]", RANK, 1 + 1 + 1 + 1 + 3);
        ends("x[1] := := 5", SYNTAX, 3);
        ends("(/) 5", SYNTAX, 1 + 1 + 1 + 1);
        ends("(+ . ) 5", SYNTAX, 4);
    }

    /** "a function where a value has to be or the other way round (STATEMENTS, INDICES, conditions are values)". */
    private static void wrongKinds() {
        fails("+", SYNTAX);
        fails("{+} 1", SYNTAX);
        fails("exe '+'", SYNTAX);
        fails("(1 2)[+]", SYNTAX);
        fails("(2 2 rho 1)[1;+]", SYNTAX);
        fails("rev[+] 1", SYNTAX);
        fails("+ rank + 1", SYNTAX);
        fails("+ rank (+) 1", SYNTAX);
        fails("{+ : 1} 1", SYNTAX);
        fails("{+ :: 1 ; 2} 1", SYNTAX);
        fails("{1 : +} 1", SYNTAX);
        fails("{0 :: + ; 1 % 0} 1", SYNTAX);
        fails("x := 1 2 ; (+ rank x) := 1", SYNTAX);
        fails("1 (+) 2 (+)", SYNTAX);
        fails("(1)/ 2", SYNTAX);
        fails("1 . + 2", SYNTAX);
        fails("+ . (1) 2", SYNTAX);
        fails("x := 1 ; x/ 2", SYNTAX);
        // "INDICES behind what is no value"
        fails("f := + ; f[1]", SYNTAX);
        fails("(+)[1]", SYNTAX);
        fails("{1}[1]", SYNTAX);
        fails("+[1]", SYNTAX);
        fails("{self[1]} 1", SYNTAX);
    }

    /** What an OPERATOR wants is not there. */
    private static void operatorsWithout() {
        ends("/ 1", SYNTAX, 3);
        ends("\" 1", SYNTAX, 3);
        ends("key 1", SYNTAX, 3);
        ends(". 1", SYNTAX, 3);
        ends("+ . 1", SYNTAX, 3);
        ends(". + 1", SYNTAX, 4);
        ends("rank 1", SYNTAX, 3);
        ends("rank 1 2", SYNTAX, 4);
        ends("+ rank", SYNTAX, 2);
        ends("+ pow", SYNTAX, 2);
        ends("+ rank - 1", SYNTAX, 4);
        ends("1 rank 1 2", SYNTAX, 5);
    }

    /** "only the tokens , rev rot rep expand / \ take one". */
    private static void axes() {
        shows("1 ,[1] 2 ; rev[1] 1 2 ; 1 rot[1] 1 2 ; 2 rep[1] 1 2 ; 1 0 1 expand[1] 1 2 ; +/[1] 1 2 ; +\\[1] 1 2",
            "1 2|2 1|2 1|1 1 2 2|1 0 2|3|1 3");
        shows("rev[(1)] 1 2 ; rev[, 1] 1 2 ; rev[1 1 rho 1] 1 2 ; a := 1 ; rev[a] 1 2 ; rev[rev[1] , 1] 1 2", "2 1|2 1|2 1|2 1|2 1");
        fails("rev[1 1] 1 2", LENGTH);
        fails("rev[''] 1 2", LENGTH);
        fails("rev['a'] 1 2", DOMAIN);
        fails("rev[1r2] 1 2", DOMAIN);
        fails("rev[2] 1 2", INDEX);
        fails("rev[0] 1 2", INDEX);
        for (String word : ONE) {
            if (!word.equals("rev")) ends(word + "[1] 5", SYNTAX, 3);
        }
        for (String word : TWO) {
            if (!"rot rep expand".contains(word)) ends("6 " + word + "[1] 5", SYNTAX, 3);
        }
        for (String word : EITHER) {
            if (!word.equals(",")) ends(word + "[1] 5", SYNTAX, 3);
        }
        for (String operator : new String[] {"\"", "~", "@", ".", " key", " rank", " pow"}) ends("+" + operator + "[1] 5", SYNTAX, 3);
    }

    /** "another sign .. is not met for that and spends no STEP, a NAME or ( ) is". */
    private static void axesThatAreNone() {
        ends("{self[1] 5} 6", SYNTAX, 1 + 1 + 1 + 2 + 1 + 1 + 1);
        ends("{right}[1] 5", SYNTAX, 3);
        ends("x :=[1] 5", SYNTAX, 3);
        ends("nope[1] 5", VALUE, 4);
        ends("(nope)[1] 5", VALUE, 5);
        ends("f := rev ; f[1] 5", SYNTAX, 3 + 4);
        ends("(rev)[1] 5", SYNTAX, 5);
        // "nor are those ahead of an AXIS that is EMPTY or of several PHRASES"
        ends("rev[] 5", SYNTAX, 2);
        ends("rev[;] 5", SYNTAX, 2);
        ends("rev[1;] 5", SYNTAX, 3);
        ends("rev[;1] 5", SYNTAX, 3);
        ends("rev[1;1] 5", SYNTAX, 4);
        ends("1 ,[] 5", SYNTAX, 2);
        ends("+/[] 5", SYNTAX, 2);
        ends("+\\[1;1] 5", SYNTAX, 4);
        // ahead of the application behind it
        fails("+[1] 1 % 0", SYNTAX);
        fails("rev[] 1 % 0", SYNTAX);
        fails("nope[1] 1 % 0", VALUE);
    }

    /** "when it is applied, a function to a left argument that it does not take, or without one that it wants". */
    private static void wrongNumbersOfArguments() {
        for (String word : ONE) ends("1 " + word + " 1", SYNTAX, 4);
        for (String word : TWO) ends(word + " 1", SYNTAX, 3);
        for (String word : EITHER) {
            House x = new House();
            due(word + " with one", x.run(word + " 1") == SYNTAX, false);
            due(word + " with two", x.run("(, 1) " + word + " 1") == SYNTAX, false);
        }
        for (String word : ONE) {
            due(word + " with one", new House().run(word + " 1") == SYNTAX, false);
        }
        for (String word : TWO) {
            due(word + " with two", new House().run("1 " + word + " 1") == SYNTAX, false);
        }
        ends("1 +\\ 2", SYNTAX, 5);
        ends("+@ 2", SYNTAX, 4);
        ends("+ . * 2", SYNTAX, 5);
        ends(",[1] 2", SYNTAX, 4);
        ends("1 rev[1] 2", SYNTAX, 5);
        ends("rot[1] 2", SYNTAX, 4);
        ends("floor/1 2", SYNTAX, 1 + 2 + 2 + 2 + 3 + 1);
        shows("floor/, 1 ; floor/5 ; min pow 0 5 ; 1 floor pow 0 5 ; min\" ''", "1|5|5|5|");
    }

    /** "x [ INDICES ]: .. the result has the extents of the first one's value, then of the second's, ..". */
    private static void choosing() {
        String x = "x := 2 3 rho iota 6 ; ";
        shows(x + "x[1;3] ; rho x[1;3] ; x[1;] ; x[;3] ; x[;] ; x[2 1;3] ; x[, 1;, 3]", "3||1 2 3|3 6|[2 3]1 2 3 4 5 6|6 3|[1 1]3");
        shows(x + "x[1;2 2 rho 1 2 3 1] ; rho x[2 1;2 2 rho 1] ; rho x[1 1 1 rho 1;1]", "[2 2]1 2 3 1|2 2 2|1 1 1");
        shows("(4 5 6)[3 3 1] ; (4 5 6)[] ; rho (4 5 6)[1 1 rho 2] ; 'abc'[3 1]", "6 6 4|4 5 6|1 1|ca");
        shows("x := 2 2 2 rho iota 8 ; x[1;2;1] ; x[;2;1] ; x[2;;1] ; x[;;] ; x[2 1;1;2]", "3|3 7|5 7|[2 2 2]1 2 3 4 5 6 7 8|6 2");
        shows("(1 (2 3))[2] ; rho (1 (2 3))[2] ; first (1 (2 3))[2]", "(2 3)||2 3");
    }

    /** "as many INDICES as RANK (RANK; so always with x of RANK 0); WHOLES (DOMAIN) .. places (INDEX ..)". */
    private static void choosingWrongly() {
        for (String text : new String[] {"5[]", "5[1]", "5[;]", "'a'[1]", "(enc 1 2)[1]", "(5 6)[1;1]", "(5 6)[;]", "(2 2 rho 1)[1]",
            "(2 2 rho 1)[]", "(2 2 rho 1)[;;]", "(5 6)[" + many(";", 30) + "]", "5['a']", "(2 2 rho 1)[9]", "(1 1 1 1 1 1 rho 1)[1;1;1;1;1;1;1]"}) {
            fails(text, RANK);
        }
        for (String text : new String[] {"(5 6)['a']", "(5 6)[1r2]", "(5 6)[enc 1 2]", "(2 2 rho 1)[9;'a']", "(2 2 rho 1)['a';9]",
            "(5 6)[9 'a']", "(5 6)['a' 9]", "(5 6)[1r2 9]"}) {
            fails(text, DOMAIN);
        }
        for (String text : new String[] {"(5 6)[3]", "(5 6)[0]", "(5 6)[_1]", "(5 6)[2000000000]", "(2 3 rho 1)[3;1]", "(2 3 rho 1)[1;4]",
            "''[1]", "(2 3 rho 1)[3;1000 rho 1]"}) {
            fails(text, INDEX);
        }
        String i = "i := 1000 rho 1 ; ";
        fails(i + "(2 2 rho 1)[i;1 1]", LIMIT);
        fails(i + "(2 2 rho 1)[1 1 1 1 rho 1;1 1 1 rho 1]", LIMIT);
        shows(i + "tally (2 2 rho 1)[i;1] ; rho (2 2 rho 1)[1 1 1 rho 1;1 1 1 rho 1]", "1000|1 1 1 1 1 1");
        fails(i + "(enc\" 2 2 rho enc 1 2)[1;i]", LIMIT);
    }

    /** "EMPTY: the FILL of x." */
    private static void choosingNothing() {
        empty("q := (4 5 6)[0 rho 1]", "0", "0");
        empty("q := 'abc'['']", "0", " ");
        empty("q := ((1 2) 3)[0 rho 1]", "0", "(0 0)");
        empty("q := (2 3 rho 'a')[0 2 rho 1;1]", "0 2", " ");
        empty("q := (2 3 rho 'a')[;0 rho 1]", "2 0", " ");
        empty("q := (0 3 rho 'a')[;1]", "0", " ");
        empty("q := ''[]", "0", " ");
        shows("rho (0 3 rho 1)[;2 2]", "0 2");
    }
}
