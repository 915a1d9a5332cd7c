/** Head 9 of the document's Terms, sentence by sentence: what spends STEPS, and what is open. */
public final class StepEdgesTest extends House {
    public static void main(String[] args) {
        statements();
        things();
        vectors();
        assignments();
        assignmentsAhead();
        applications();
        applicationsWithEvents();
        madeByOperators();
        madeByOthers();
        noneOfTheirOwn();
        namesOfFunctions();
        fortyThousand();
        noneWhereThereAreTooFew();
        givenAheadOfItsSteps();
        eachRunHasItsOwn();
        openParens();
        openIndices();
        openAxes();
        openAssignments();
        openFunctions();
        openCalls();
        openApplications();
        openExecuted();
        openTogether();
        openNoMore();
        countedThenOpen();
        end();
    }

    private static void spends(String text, int... steps) {
        int sum = 0;
        for (int s : steps) sum += s;
        House x = new House();
        x.run(text);
        due(text + "  (steps)", x.h.steps(), sum);
    }

    /** "A STATEMENT that is come to (also in { }, exe; not an EMPTY one; a c : p or n :: p once) spends 1". */
    private static void statements() {
        spends("", 0);
        spends(";;\n", 0);
        spends("1", 1, 1);
        spends("1 ; ; 2\n3", 2, 2, 2);
        spends("{1} 0", 1, 1, 1, 2, 1 + 1, 1);
        spends("{;;1;2} 0", 1, 1, 1, 2, 1 + 1, 1);
        spends("{0 : nope ; 1} 0", 1, 1, 1, 2, 1 + 1, 1 + 1, 1);
        spends("{1 : 5} 0", 1, 1, 1, 2, 1 + 1 + 1, 1);
        spends("{5 :: nope ; 1} 0", 1, 1, 1, 2, 1 + 1, 1 + 1, 1);
        spends("{5 :: 7 ; 1 % 0} 0", 1, 1, 1, 2, 1 + 1, 1 + 1 + 1 + 1 + 3, 1, 1);
        spends("exe '1;;2'", 1, 1, 1, 1 + 4, 1 + 1, 1 + 1, 1);
        spends("1 ; 1 % 0 ; 3", 2, 1, 1, 1, 1, 3);
    }

    /** "each OPERAND, PRIMARY and OPERATOR that is met 1, once, ahead of all else of it". */
    private static void things() {
        spends("5", 1, 1);
        spends("'abc'", 1, 1);
        spends("''", 1, 1);
        spends("(5)", 1, 1, 1);
        spends("(((5)))", 1, 3, 1);
        spends("{left} pow 0 5", 1, 1, 1, 1, 1, 1 + 1, 1);
        spends("x := 1 2 3 ; x", 1 + 3 + 3 + 1 + 3, 1 + 1);
        spends("{right} 5", 1, 1, 1, 2, 1 + 1, 1);
        spends("5 {left} 5", 1, 1, 1, 1, 3, 1 + 1, 1);
        spends("{1 : right ; self 1} 0", 1, 1, 1, 2, 1 + 1 + 1, 1);
        spends("(5 6)[1]", 1, 1, 1 + 2 + 2, 1 + 2 + 1, 1);
        spends("(5 6)[1 2]", 1, 2 + 2, 1 + 2 + 2, 1 + 2 + 2, 2);
        spends("(5 6)[]", 1, 1 + 2 + 2, 1 + 2, 2);
        spends("(2 2 rho 1)[1;]", 1, 1, 1, 1 + 1 + 2 + 2 + 4 + 4, 1 + 4 + 1, 2);
        spends("rev[1] 5 6", 1, 2, 1, 1, 2, 1 + 2, 2);
        // "a NAME, left, right, ( ) or { } before it is known what it is"
        spends("nope", 1, 1);
        spends("nope 5", 1, 1, 1);
        spends("left", 1, 1);
        spends("right 5", 1, 1, 1);
        spends("()", 1, 1);
        spends("{left} 5", 1, 1, 1, 2, 1 + 1);
        spends("5 {1}", 1, 1, 1);
        // "INDICES and AXES are met ahead of what they stand behind"
        spends("nope[1]", 1, 1, 1);
        spends("rev[nope] 5", 1, 1, 1);
        spends("nope[nope]", 1, 1);
        spends("x[1;nope]", 1, 1);
        spends("x[nope;1]", 1, 1, 1);
        // an OPERAND is met ahead of the OPERATOR that it belongs to
        spends("+ rank nope 5", 1, 1, 1);
        spends("+ rank 0 5", 1, 1, 1, 1, 1, 2 + 1, 2 + 1, 1);
        spends("+\" 5 6", 1, 2, 1, 2, 1, 1 + 2, 2, 2 + 1, 2 + 1, 2);
    }

    /** "a VECTOR of two or more OPERANDS its SIZE, when it is made (LIMIT first)". */
    private static void vectors() {
        spends("1 2", 1, 2, 2);
        spends("1 2 3", 1, 3, 3);
        spends("1 'ab' 3", 1, 3, 5);
        spends("x := 1 2 ; x x", 1 + 2 + 2 + 1 + 2, 1 + 2 + 6);
        spends("1 2 + 3 4", 1, 2, 1, 2, 2, 2, 1 + 4, 2);
        spends("(999 rho 1) 1", 1, 1, 1 + 1 + 1 + 1 + 3 + 999);
        spends("(998 rho 1) 1", 1, 1, 1 + 1 + 1 + 1 + 3 + 998, 1000);
        spends(many("1 ", 1000), 1, 1000, 1000);
        spends(many("1 ", 1001), 1, 1001);
        spends("{1 2} pow 0 5", 1, 1, 1, 1, 1, 2, 1);
    }

    /** ":= 1, when it is met (..; elsewhere it is SYNTAX and spends none)"; "the SIZE of the value that a NAME means then". */
    private static void assignments() {
        spends("x := 5", 1, 1, 1, 1);
        spends("x := 1 2 3", 1, 3, 1, 3, 3);
        spends("x := ''", 1, 1, 1, 0);
        spends("x := y := 5", 1, 1, 1, 1, 1, 1);
        spends("x := 1 (2 3)", 1, 2 + 2 + 2, 1, 4, 4);
        spends("f := +", 1, 1, 1);
        spends("f := {right} ; f := +/", 3, 1 + 2 + 1);
        spends("5 := 6", 1, 1, 1);
        spends("x := ", 1);
        spends("x := / 5", 1, 1, 1);
        spends("x := + rank", 1, 1);
        spends("x := := 5", 1, 1, 1);
        spends("5 := +", 1, 1, 1);
        spends("x := := +", 1, 1, 1);
        spends("{x := 5} 0", 1, 1, 1, 2, 1 + 1 + 1 + 1);
    }

    /** "the ( ) of a ( PHRASE ) 1, .., NAME, ( NAMES ), a sign or WORD, [ ] none"; "NAME by NAME". */
    private static void assignmentsAhead() {
        spends("(a b) := 1 2", 1, 2, 1, 2, 1, 1);
        spends("(a b) := 7", 1, 1, 1, 1, 1);
        spends("(a b) := (1 2) 'xyz'", 1, 1 + 1 + 2 + 2, 1, 7, 3, 2);
        spends("x := 5 ; x + := 6", 4, 1, 1, 1, 3, 1, 1);
        spends("x := 5 ; x , := 6 7", 4, 1, 2, 1, 2, 1 + 1 + 2, 3, 3);
        spends("x := 5 ; x floor := 6", 4, 1, 1, 1);
        spends("x + := 6", 1, 1, 1);
        spends("x := 1 2 ; x[1] := 6", 8, 1, 1, 1, 1, 2);
        spends("x := 1 2 ; x[1 1] := 6", 8, 1, 1, 1, 2 + 2, 2);
        spends("x := 1 2 ; x[3] := 6", 8, 1, 1, 1, 1);
        spends("x[3] := 6", 1, 1, 1, 1);
        // the ( ), its NAME, the WHOLES that this one means, what is done, and the new value
        spends("x := 1 2 ; (1 take x) := 6", 8, 1, 1, 1, 1, 1, 2, 1, 1, 1 + 1 + 2, 1, 2);
        spends("x := 1 2 ; (3 take x) := 6", 8, 1, 1, 1, 1, 1, 2, 1, 1, 1 + 1 + 2, 3);
        spends("(3 take x) := 6", 1, 1, 1, 1, 1);
        spends("x := '' ; (1 take x) := 6", 3, 1, 1, 1, 1, 1, 0, 1, 1, 1 + 1, 1);
        spends("x := 5 ; (1 x) := 6", 4, 1, 1, 1, 1, 1, 1, 1, 2, 1);
        spends("(5) := 6", 1, 1, 1);
        spends("() := 6", 1, 1, 1);
    }

    /** "an application of a function 1 and the SIZES of its arguments, .., and behind it the SIZE of what it gives". */
    private static void applications() {
        spends("- 5", 1, 1, 1, 1 + 1, 1);
        spends("2 - 5", 1, 1, 1, 1, 1 + 2, 1);
        spends("tally 5 6 7", 1, 3, 1, 3, 1 + 3, 1);
        spends("3 rho 5", 1, 1, 1, 1, 1 + 2, 3);
        spends("tally ''", 1, 1, 1, 1, 1);
        spends("- ''", 1, 1, 1, 1);
        spends("enc 5 6", 1, 2, 1, 2, 1 + 2, 3);
        spends("tally enc 5 6", 1, 2, 1, 2, 1, 1 + 2, 3, 1 + 3, 1);
        spends("{right} 5 6", 1, 2, 1, 2, 1 + 2, 1 + 1, 2);
        spends("x := 5 6 ; x[1]", 8, 1, 1, 1, 1 + 2 + 1, 1);
        spends("x := 5 6 ; x[1][]", 8, 1, 1, 1, 1 + 2 + 1, 1, 1 + 1);
        spends("exe '1'", 1, 1, 1, 1 + 1, 1 + 1, 1);
        spends("'a' match 'abc'", 1, 1, 1, 1, 1 + 4, 1);
    }

    /** "ahead of all its events but SYNTAX for its arguments". */
    private static void applicationsWithEvents() {
        spends("1 floor 5", 1, 1, 1, 1);
        spends("min 5", 1, 1, 1);
        spends("+@ 5", 1, 1, 1, 1);
        spends("1 +\\ 5", 1, 1, 1, 1, 1);
        spends(",[1] 5", 1, 1, 1, 1);
        spends("- 'a'", 1, 1, 1, 1 + 1);
        spends("1 2 + 1 2 3", 1, 3, 1, 3, 2, 2, 1 + 5);
        spends("rev[5] 1 2", 1, 2, 1, 1, 2, 1 + 2);
        spends("1001 rho 5", 1, 1, 1, 1, 1 + 2);
        spends("(5 6)[3]", 1, 1, 1 + 2 + 2, 1 + 2 + 1);
        spends("exe 5", 1, 1, 1, 1 + 1);
        spends("exe ')'", 1, 1, 1, 1 + 1);
        spends("+/[2] 5 6", 1, 2, 1, 1, 2, 1, 1 + 2);
        spends("+ pow 'a' 5", 1, 1, 1, 1, 1, 1 + 1);
    }

    /** "one of a function made by / \ " @ . key rank besides .. the COUNT of its result". */
    private static void madeByOperators() {
        spends("+/5 6 7", 1, 3, 1, 3, 1, 1 + 3, 1, 4, 4, 1);
        spends("+/, 5", 1, 1, 1, 1, 1, 1 + 1, 1, 1 + 1, 1, 1);
        spends("+/2 2 rho 5", 1, 1, 1, 2, 1, 2, 1 + 3, 4, 1, 1 + 4, 2, 4, 4, 2);
        spends("+/''", 1, 1, 1, 1, 1, 1, 1);
        spends("+/0 3 rho 5", 1, 1, 1, 2, 1, 2, 1 + 3, 0, 1, 1, 0, 0);
        // "(.. nothing where W of RANK 0 is the result of f/ or f\ )"
        spends("+/5", 1, 1, 1, 1, 1 + 1, 1);
        spends("+\\5", 1, 1, 1, 1, 1 + 1, 1);
        spends("+\\5 6 7", 1, 3, 1, 3, 1, 1 + 3, 3, 4, 4, 4, 3);
        spends("2 +/5 6 7", 1, 3, 1, 3, 1, 1, 1 + 4, 2, 4, 4, 2);
        spends("0 +/5 6", 1, 2, 1, 2, 1, 1, 1 + 3, 3, 3);
        spends("-\"5 6", 1, 2, 1, 2, 1, 1 + 2, 2, 3, 3, 2);
        spends("-\"5", 1, 1, 1, 1, 1 + 1, 1, 3, 1);
        spends("1 -\"5 6", 1, 2, 1, 2, 1, 1, 1 + 3, 2, 4, 4, 2);
        spends("{1}\"''", 1, 1, 1, 1, 1);
        spends("1 2 +@ 3", 1, 1, 1, 1, 2, 2, 1 + 3, 2, 4, 4, 2);
        spends("1 2 +.* 3 4", 1, 2, 1, 2, 1, 1, 2, 2, 1 + 4, 1, 4, 4, 4, 1);
        spends("5 +.* ''", 1, 1, 1, 1, 1, 1, 1 + 1, 1, 1);
        // behind its own events that come ahead of the first application
        spends("{1}/''", 1, 1, 1, 1, 1);
        spends("0 {1}/5 6", 1, 2, 1, 2, 1, 1, 1 + 3);
        spends("4 +/5 6", 1, 2, 1, 2, 1, 1, 1 + 3);
        spends("1 2 +\"1 2 3", 1, 3, 1, 3, 1, 2, 2, 1 + 5);
        spends("1 2 +.*1 2 3", 1, 3, 1, 3, 1, 1, 2, 2, 1 + 5);
        // ahead of the first application
        spends("%\"0 5", 1, 2, 1, 2, 1, 1 + 2, 2, 2);
    }

    private static void madeByOthers() {
        spends("- rank 0 (5 6)", 1, 1 + 2 + 2, 1, 1, 1, 1 + 2, 2, 3, 3, 2);
        spends("- rank 1 (5 6)", 1, 1 + 2 + 2, 1, 1, 1, 1 + 2, 1, 5, 2);
        spends("rev rank 1 (2 2 rho 5)", 1, 1 + 1 + 1 + 2 + 2 + 4 + 4, 1, 1, 1, 1 + 4, 2, 5, 5, 4);
        spends("1 + rank 0 (5 6)", 1, 1 + 2 + 2, 1, 1, 1, 1, 1 + 3, 2, 4, 4, 2);
        spends("{1} rank 0 ''", 1, 1, 1, 1, 1, 1);
        spends("+ rank 'a' 5", 1, 1, 1, 1, 1, 1 + 1);
        spends("{left} key 5 5 6", 1, 3, 1, 3, 1, 1 + 3, 2, 4 + 1 + 1 + 1, 3 + 1 + 1 + 1, 2);
        spends("'aa' {left} key 5 6", 1, 2, 1, 2, 1, 1, 1 + 4, 1, 4 + 1 + 1 + 1, 1);
        spends("{1} key ''", 1, 1, 1, 1, 1);
        // ~ and pow spend nothing besides
        spends("-~ 5", 1, 1, 1, 1, 1 + 1, 3 + 1, 1);
        spends("2 -~ 5", 1, 1, 1, 1, 1, 1 + 2, 3 + 1, 1);
        spends("- pow 2 5", 1, 1, 1, 1, 1, 1 + 1, 3, 3, 1);
        spends("1 + pow 2 5", 1, 1, 1, 1, 1, 1, 1 + 2, 4, 4, 1);
        spends("- pow 0 5", 1, 1, 1, 1, 1, 1 + 1, 1);
    }

    /** "(What 6 does within BOXES, the mix of rank and key, the f/ in A f/ , f\ and f.g are no applications of their own.)" */
    private static void noneOfTheirOwn() {
        spends("- enc 5 6", 1, 2, 1, 2, 1, 1 + 2, 3, 1 + 3, 3);
        spends("(enc 5 6) + 1", 1, 1, 1, 1 + 2 + 1 + 2 + 3 + 3, 1 + 4, 3);
        spends("{enc 5 6} rank 0 5", 1, 1, 1, 1, 1, 1 + 1, 1, 1 + 1 + 1 + 2 + 1 + 2 + 3 + 3 + 3, 3);
        spends("3 {left}/5 6 7", 1, 3, 1, 3, 1, 1, 1 + 4, 1, 3 + 2 + 1, 3 + 2 + 1, 1);
        spends("{left}\\5 6", 1, 2, 1, 2, 1, 1 + 2, 2, 3 + 2 + 1, 2);
    }

    /** "(also in a NAME's function ..)": its text is worked out at each use. */
    private static void namesOfFunctions() {
        spends("f := - ; f 5", 3, 1, 1, 1, 1, 2, 1);
        spends("f := -/ ; f 5 6", 4, 1, 2, 1, 2, 2, 3, 1, 4, 1);
        spends("f := - ; g := f ; g 5", 3, 1 + 1 + 1 + 1, 1, 1, 1, 1, 1, 2, 1);
        spends("f := (-) ; f 5", 1 + 1 + 1 + 1, 1, 1, 1, 2, 2, 1);
        spends("f := rev[1] ; f 5 6", 1 + 1 + 1 + 1, 1, 2, 1, 2, 2, 3, 2);
        spends("f := + rank 0 ; f 5", 1 + 3 + 1, 1, 1, 1, 3, 2, 1, 3, 1);
        spends("f := - ; 1 f\" 5", 3, 1, 1, 1, 1, 1, 1, 3, 1, 4, 1);
        spends("f := -", 1, 1, 1);
        // where it is met, but not used, it is not worked out
        spends("f := - ; 5 f", 3, 1, 1, 1, 1);
        spends("f := - ; f[1] 5", 3, 1, 1, 1, 1);
    }

    /** "One run() has 40000 STEPS". */
    private static void fortyThousand() {
        ends("+ pow 13330 1 ; 1", 0, 40000);
        ends("+ pow 13330 1 ; ; # nothing\n ; 1 ; ;", 0, 40000);
        ends("+ pow 13330 1 ; 1 ; 1", STEPS, 40000);
        ends("+ pow 13330 1 ; '' ; 1", STEPS, 40000);
        ends("+ pow 13330 1 ; - 1", STEPS, 40000);
        ends("+ pow 13330 1 ; (1)", STEPS, 40000);
        ends("+ pow 13330 1 ; x := 1", STEPS, 40000);
        ends("+ pow 13330 1 ; nope", VALUE, 40000);
        ends("+ pow 13330 1 ; +", SYNTAX, 40000);
        ends("+ pow 13330 1 ; := ", SYNTAX, 39999);
        ends("+ pow 13330 1 ; x := ", SYNTAX, 39999);
        ends("+ pow 13330 1 ; () 1", STEPS, 40000);
        ends("+ pow 13330 1 ; 5[nope]", VALUE, 40000);
        ends("+ pow 13330 1 ; x[]", VALUE, 40000);
        House x = new House();
        due("STEPS", x.run("+ pow 13330 1 ; 1 ; ; 1"), STEPS);
        due("at", x.h.at(), 3);
        due("shown", x.shown(), "1\n1\n");
    }

    /** "what would spend more than are left spends none of them: STEPS". */
    private static void noneWhereThereAreTooFew() {
        // 33 are left for the last STATEMENT
        String ahead = "x := 30 rho 1 ; + pow 13297 1 ; ";
        spends(ahead, 1 + 3 + 1 + 3 + 30 + 30, 8 + 3 * 13297);
        int left = 40000 - 68 - 8 - 3 * 13297;
        due("left", left, 33);
        ends(ahead + "+ x", STEPS, 40000 - left + 3);
        ends(ahead + "tally x", STEPS, 40000 - left + 3);
        ends(ahead + "x 1", STEPS, 40000 - left + 3);
        ends(ahead + "y := x", 0, 40000);
        ends(ahead + "1 y := x", STEPS, 40000);
        ends(ahead + "y := x , 1", STEPS, 40000 - left + 5);
        ends(ahead + "30 rho 1", STEPS, 40000 - left + 7);
        ends(ahead + "26 rho 1", 0, 40000);
        ends(ahead + "27 rho 1", STEPS, 40000 - left + 7);
        ends(ahead + "f := 1 rho x", STEPS, 40000 - left + 5);
        ends(ahead + "({0 :: 1 ; tally x} 0)", STEPS, 40000 - left + 11);
        // one that just suffices
        String exactly = "x := 28 rho 1 ; + pow 13298 1 ; ";
        spends(exactly, 64, 8 + 3 * 13298);
        ends(exactly + "tally x", 0, 40000 - 34 + 3 + 29 + 1);
        ends(exactly + "y := x", 0, 40000 - 34 + 3 + 28);
        ends(exactly + "+ x", STEPS, 40000 - 34 + 3 + 29);
        ends("x := 30 rho 1 ; + pow 13296 1 ; tally x ; 1", STEPS, 40000);
    }

    /** "right behind its getting it, NAME by NAME". */
    private static void givenAheadOfItsSteps() {
        House x = new House();
        String ahead = "x := 30 rho 1 ; + pow 13300 1 ; ";
        due("NAME :=", x.run(ahead + "y := x"), STEPS);
        due("steps", x.h.steps(), 68 + 39908 + 3);
        due("it means the value", x.h.told(4), 60);
        due("it means the value", x.run("tally y"), 0);
        x.run("v := enc 10 rho 5");
        due("( NAMES ) :=", x.run("+ pow 13322 1 ; (a b c d) := v"), STEPS);
        due("steps", x.h.steps(), 39974 + 3 + 10 + 10);
        due("the last ones got it", x.run("d ; c ; b"), 0);
        due("the first one did not", x.run("a"), VALUE);
        due("NAME [ ] :=", x.run("x := 30 rho 1 ; + pow 13300 1 ; x[1] := 2"), STEPS);
        due("it means the new value", x.run("x[1]"), 0);
        due("it means the new value", x.shown(), "2\n");
    }

    private static void eachRunHasItsOwn() {
        House x = new House();
        due("all of them", x.run("{1 + right} pow 2000000000 0"), STEPS);
        due("all of them", x.run("+ pow 13330 1 ; 1"), 0);
        due("a FAULT", x.run("+ pow 13330 1 ; $"), -26);
        due("STEPS of a FAULT", x.h.steps(), 0);
        due("an EMPTY text", x.run(""), 0);
        due("STEPS of an EMPTY text", x.h.steps(), 0);
    }

    /** "At most 40 of these are open at once, the next one is LIMIT: ( ) that are being worked out". */
    private static void openParens() {
        shows(many("(", 40) + "1" + many(")", 40), "1");
        ends(many("(", 41) + "1" + many(")", 41), LIMIT, 1 + 41);
        shows(many("(", 40) + "+" + many(")", 40) + " 1", "1");
        fails(many("(", 41) + "+" + many(")", 41) + " 1", LIMIT);
        shows(many("(1) ", 100) + "1", many("1 ", 100) + "1");
        shows(many("(", 39) + "(1) + (2) + (3)" + many(")", 39), "6");
        fails(many("(", 40) + "1 + (2)" + many(")", 40), LIMIT);
        ends(many("(", 40) + "()" + many(")", 40), VALUE, 1 + 41);
    }

    /** "[ ] till .. x [ INDICES ] .. has been done". */
    private static void openIndices() {
        String x = "x := 1 2 ; ";
        shows(x + many("x[", 40) + "1" + many("]", 40), "1");
        ends(x + many("x[", 41) + "1" + many("]", 41), LIMIT, 8 + 1);
        shows(x + "x" + many("[1 2]", 40), "1 2");
        fails(x + "x" + many("[1 2]", 41), LIMIT);
        fails(x + many("(", 40) + "x[]" + many(")", 40), LIMIT);
        shows(x + many("(", 39) + "x[]" + many(")", 39), "1 2");
        fails(x + many("(", 39) + "x[(1)]" + many(")", 39), LIMIT);
        shows(x + many("(", 38) + "x[(1)]" + many(")", 38), "1");
        // still open while what is ahead of it is worked out
        fails(x + many("(", 39) + "(x)[1]" + many(")", 39), LIMIT);
        shows(x + many("(", 38) + "(x)[1]" + many(")", 38), "1");
        shows(x + many("x[1] , ", 60) + "1", many("1 ", 60) + "1");
    }

    /** "[ ] till they are known as an AXIS". */
    private static void openAxes() {
        shows(many("rev[1] ", 60) + "1 2 3", "1 2 3");
        shows(many("rev[", 40) + "1" + many("] , 1", 40), "1");
        fails(many("rev[", 41) + "1" + many("] , 1", 41), LIMIT);
        shows("+" + many("/[1]", 30) + " , 1", "1");
        shows(many("(", 39) + "rev[1] 1 2" + many(")", 39), "2 1");
        fails(many("(", 40) + "rev[1] 1 2" + many(")", 40), LIMIT);
        fails(many("(", 39) + "rev[(1)] 1 2" + many(")", 39), LIMIT);
    }

    /** "[ ] till .. := , has been done"; the ( ) of a ( PHRASE ) := . */
    private static void openAssignments() {
        shows("x := 1 2 ; " + many("x[1] := ", 60) + "5 ; x", "5 2");
        shows("x := 1 2 ; " + many("(1 take x) := ", 60) + "5 ; x", "5 2");
        shows("x := 1 2 ; " + many("(", 39) + "x[1] := 5" + many(")", 39) + " ; x", "5|5 2");
        fails("x := 1 2 ; " + many("(", 40) + "x[1] := 5" + many(")", 40), LIMIT);
        shows("x := 1 2 ; " + many("(", 39) + "(1 take x) := 5" + many(")", 39) + " ; x", "5|5 2");
        fails("x := 1 2 ; " + many("(", 40) + "(1 take x) := 5" + many(")", 40), LIMIT);
        shows("x := 1 2 ; (" + many("(", 39) + "1" + many(")", 39) + " take x) := 5 ; x", "5 2");
        fails("x := 1 2 ; (" + many("(", 40) + "1" + many(")", 40) + " take x) := 5 ; x", LIMIT);
        shows("x := 1 2 ; x[" + many("(", 39) + "1" + many(")", 39) + "] := 5 ; x", "5 2");
        fails("x := 1 2 ; x[" + many("(", 40) + "1" + many(")", 40) + "] := 5 ; x", LIMIT);
        // ( NAMES ) are not worked out
        shows(many("(", 40) + "(a b) := 1 2" + many(")", 40), "1 2");
    }

    /** "a NAME's function that is worked out". */
    private static void openFunctions() {
        StringBuilder names = new StringBuilder("f0 := +");
        for (int i = 1; i <= 39; i++) names.append(" ; f").append(i).append(" := f").append(i - 1);
        shows(names + " ; 1 f39 2", "3");
        shows(names + " ; f40 := f39", "");
        fails(names + " ; f40 := f39 ; f40 1", LIMIT);
        fails(names + " ; f40 := f39 ; f41 := f40", LIMIT);
        fails(names + " ; (f39) 1", LIMIT);
        shows(names + " ; (f38) 1", "1");
        shows("f := - ; " + many("f ", 60) + "1", "1");
        fails("f := f", VALUE);
        fails("g := + ; f := g ; g := f ; f 1", LIMIT);
    }

    private static void openCalls() {
        shows("{0 = right : 0 ; self right - 1} 39", "0");
        fails("{0 = right : 0 ; self right - 1} 40", LIMIT);
        shows(many("{", 40) + "right" + many("} 7", 40), "7");
        fails(many("{", 41) + "right" + many("} 7", 41), LIMIT);
        shows(many("{right + 1} ", 60) + "0", "60");
        fails("{self right} 0", LIMIT);
        shows("{0 = right : (((5))) ; self right - 1} 36", "5");
        fails("{0 = right : (((5))) ; self right - 1} 37", LIMIT);
        // a function's sign is not open
        shows(many("(", 40) + "- 1" + many(")", 40), "_1");
    }

    /** "applications of functions made by operators". */
    private static void openApplications() {
        shows("+" + many("\"", 40) + " 1", "1");
        fails("+" + many("\"", 41) + " 1", LIMIT);
        shows("+" + many("~", 40) + " 1", "2");
        fails("+" + many("~", 41) + " 1", LIMIT);
        shows("-" + many(" pow 1", 40) + " 1", "_1");
        fails("-" + many(" pow 1", 41) + " 1", LIMIT);
        shows("-" + many(" rank 9", 40) + " 1", "_1");
        fails("-" + many(" rank 9", 41) + " 1", LIMIT);
        shows(many("(", 39) + "+/ 1 2" + many(")", 39), "3");
        fails(many("(", 40) + "+/ 1 2" + many(")", 40), LIMIT);
        for (String f : new String[] {"+\\ 1", "-\" 1", "+~ 1", "1 +@ 1", "1 +.* 1", "- rank 0 1", "- pow 0 1", "+ key 1", "1 +/ , 1", "+/ 1", "min\" ''"}) {
            fails(many("(", 40) + f + many(")", 40), LIMIT);
            due(f, new House().run(many("(", 39) + f + many(")", 39)), 0);
        }
        shows(many("+/ ", 60) + "1", "1");
    }

    private static void openExecuted() {
        shows("{0 = right : 0 ; exe 'self right - 1'} 19", "0");
        fails("{0 = right : 0 ; exe 'self right - 1'} 20", LIMIT);
        shows(many("(", 39) + "exe '1'" + many(")", 39), "1");
        fails(many("(", 40) + "exe '1'" + many(")", 40), LIMIT);
        shows("exe\" 60 rho '1'", many("1 ", 59) + "1");
        shows(many("(", 20) + "exe '" + many("(", 19) + "1" + many(")", 19) + "'" + many(")", 20), "1");
        fails(many("(", 20) + "exe '" + many("(", 20) + "1" + many(")", 20) + "'" + many(")", 20), LIMIT);
    }

    private static void openTogether() {
        // CALL, ( ) , exe, [ ] , application: five at each turn, and the last CALL
        String f = "f := {0 = right : 5 ; (exe '(1 2 3)[1 + 0 * first f\" , right - 1]')} ; ";
        shows(f + "f 1", "1");
        shows(f + "f 0", "5");
        shows(f + "f 7", "1");
        fails(f + "f 8", LIMIT);
        shows("{7 :: right ; 0 = right : self 5 ; self right - 1} 39", "0");
    }

    /** What an EVENT ended is open no more, in the next run either. */
    private static void openNoMore() {
        House x = new House();
        for (String text : new String[] {"(5 6)[nope]", "rev[nope] 5", "x := 5 6 ; x[nope] := 1", "(nope take x) := 1", "(nope)", "{nope} 0",
            "{nope}\" 1 2", "exe 'nope'", "exe ')'", "f := {nope} ; f 1", "+ pow 20000 1", "{self right} 0"}) {
            for (int i = 0; i < 5; i++) x.run(text);
        }
        due("all 40", x.run(many("(", 40) + "1" + many(")", 40)), 0);
        due("one more", x.run(many("(", 41) + "1" + many(")", 41)), LIMIT);
        due("all 40 again", x.run(many("(", 40) + "1" + many(")", 40)), 0);
    }

    /** "(An application counts its STEPS, then that it is open.)" */
    private static void countedThenOpen() {
        ends(many("(", 40) + "+/ 1 2 3" + many(")", 40), LIMIT, 1 + 40 + 3 + 1 + 3 + 1 + 4);
        ends(many("(", 40) + "{right} 1 2 3" + many(")", 40), LIMIT, 1 + 40 + 3 + 1 + 3 + 4);
        ends(many("(", 40) + "exe 'abc'" + many(")", 40), LIMIT, 1 + 40 + 1 + 1 + 4);
        ends(many("(", 40) + "exe 5" + many(")", 40), LIMIT, 1 + 40 + 1 + 1 + 2);
        ends(many("(", 40) + "1 +\\ 2" + many(")", 40), SYNTAX, 1 + 40 + 1 + 1 + 1 + 1);
        ends(many("(", 40) + "+@ 2" + many(")", 40), SYNTAX, 1 + 40 + 1 + 1 + 1);
        ends(many("(", 40) + "1 2 +\" 1 2 3" + many(")", 40), LIMIT, 1 + 40 + 3 + 1 + 3 + 1 + 2 + 2 + 6);
        ends("+ pow 13310 1 ; " + many("(", 40) + "{right} 1 2 3" + many(")", 40), LIMIT, 39938 + 1 + 40 + 3 + 1 + 3 + 4);
        ends("+ pow 13314 1 ; " + many("(", 40) + "{right} 1 2 3" + many(")", 40), STEPS, 39950 + 1 + 40 + 3 + 1 + 3);
    }
}
