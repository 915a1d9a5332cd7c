/** Head 5 of the document's Terms, sentence by sentence: CALLS, conditions, GUARDS; and exe of head 7. */
public final class CallEdgesTest extends House {
    public static void main(String[] args) {
        called();
        statements();
        conditions();
        conditionsThatAreNone();
        whatConditionsGive();
        guardNumbers();
        guardsThatAreNone();
        everyEvent();
        theLastGuardFirst();
        guardsAreGone();
        guardsOfOthers();
        whatAGuardGives();
        whatWasAssignedStays();
        whatWasBegunIsOver();
        stepsAreNotTaken();
        noValue();
        executed();
        executedWrongly();
        executedPlaces();
        end();
    }

    /** "right is its right argument, left its left one (if there is one), self itself". */
    private static void called() {
        shows("{right} 5 ; 3 {left} 5 ; 3 {left - right} 5 ; {right right} 5 6", "5|3|_2|(5 6) (5 6)");
        shows("{0 = right : 7 ; self right - 1} 3 ; f := {0 = right : left ; (left + right) self right - 1} ; 1 f 3", "7|7");
        shows("{right}\" 1 (2 3) ; {left , right}/ 1 2 3 ; 1 {left right}@ 2 3", "1 (2 3)|(1 2 3)|(1 2) (1 3)");
        fails("{left} 5", VALUE);
        fails("{left}\" 5 6", VALUE);
        fails("{left} pow 1 5", VALUE);
        shows("5 {left}~ 6 ; {left right}~ 6", "6|6 6");
    }

    /** "Its STATEMENTS are done one after the other"; the first that gives a value ends the CALL. */
    private static void statements() {
        shows("{1 ; 1 % 0} 0 ; {x := 1 ; x + := 1 ; x ; nope} 0 ; {;;5;;} 0 ; {\n5\n} 0", "1|2|5|5");
        shows("{x := 1 ; ; y := 2 ; f := - ; x f y} 0", "_1");
        shows("{''} 0 ; rho {''} 0", "|0");
        // "A PHRASE that ENDS BY := : it is done."
        shows("{x := 5 ; 6} 0 ; {(x := 5) ; 6} 0 ; {+ x := 5 ; 6} 0 ; {(a b) := 5 ; b} 0", "6|5|5|5");
        ends("{;;5} 0", 0, 1 + 1 + 1 + 2 + 1 + 1 + 1);
        ends("{x := 5 ; 6} 0", 0, 1 + 1 + 1 + 2 + 4 + 2 + 1);
    }

    /** "c comes to a value with COUNT 1 (LENGTH) that is 0 or 1 (DOMAIN, also of a BOX)". */
    private static void conditions() {
        shows("{1 : 5 ; 6} 0 ; {0 : 5 ; 6} 0 ; {(, 1) : 5 ; 6} 0 ; {(1 1 1 rho 0) : 5 ; 6} 0 ; {1r1 : 5 ; 6} 0 ; {_0 : 5 ; 6} 0",
            "5|6|5|6|5|6");
        fails("{1 1 : 5} 0", LENGTH);
        fails("{'' : 5} 0", LENGTH);
        fails("{(0 rho 1) : 5} 0", LENGTH);
        fails("{'ab' : 5} 0", LENGTH);
        fails("{2 : 5} 0", DOMAIN);
        fails("{_1 : 5} 0", DOMAIN);
        fails("{1r2 : 5} 0", DOMAIN);
        fails("{'a' : 5} 0", DOMAIN);
        fails("{'1' : 5} 0", DOMAIN);
        fails("{(enc 1 1) : 5} 0", DOMAIN);
        fails("{(enc , 1) : 5} 0", DOMAIN);
        fails("{(, enc , 0) : 5} 0", DOMAIN);
    }

    private static void conditionsThatAreNone() {
        fails("{ : 5} 0", VALUE);
        fails("{ : } 0", VALUE);
        fails("{(f := +) : 5} 0", VALUE);
        fails("{f := + : 5} 0", VALUE);
        fails("{+ : 5} 0", SYNTAX);
        shows("{x := 1 : 5 ; 6} 0 ; {x := 0 : 5 ; x} 0", "5|0");
        ends("{ : 5} 0", VALUE, 1 + 1 + 1 + 2 + 1);
    }

    /** "For 1 p is worked out, its VALUE is what the CALL gives; for 0 it is nothing." "(also if it ENDS BY := .)" */
    private static void whatConditionsGive() {
        shows("{1 : x := 5 ; 6} 0 ; {1 : '' ; 6} 0 ; {0 : nope ; 6} 0 ; {0 : 1 % 0 ; 6} 0 ; {0 : ; 6} 0 ; {0 : + ; 6} 0",
            "5||6|6|6|6");
        fails("{1 : ; 6} 0", VALUE);
        fails("{1 : + ; 6} 0", SYNTAX);
        fails("{1 : f := + ; 6} 0", VALUE);
        fails("{1 : nope ; 6} 0", VALUE);
        fails("{0 : 5} 0", VALUE);
        ends("{0 : 5 ; 6} 0", 0, 1 + 1 + 1 + 2 + 2 + 2 + 1);
        ends("{1 : 5 ; 6} 0", 0, 1 + 1 + 1 + 2 + 2 + 1 + 1);
    }

    /** "n comes to a value of WHOLES 0 .. 7 (DOMAIN; an EMPTY one guards nothing)". */
    private static void guardNumbers() {
        shows("{0 :: 9 ; 1 % 0} 0 ; {5 :: 9 ; 1 % 0} 0 ; {1 2 3 4 5 6 7 :: 9 ; 1 % 0} 0 ; {(2 2 rho 1 2 5 7) :: 9 ; 1 % 0} 0",
            "9|9|9|9");
        fails("{1 2 3 4 6 7 :: 9 ; 1 % 0} 0", DOMAIN);
        fails("{'' :: 9 ; 1 % 0} 0", DOMAIN);
        fails("{(0 rho 0) :: 9 ; 1 % 0} 0", DOMAIN);
        fails("{(0 rho enc 1 2) :: 9 ; 1 + 1 1 + 1 1 1} 0", LENGTH);
        shows("{'' :: 9 ; 8} 0 ; {0 :: 9 ; 8} 0 ; {5 5 5 :: 9 ; 1 % 0} 0 ; {x := 5 :: 9 ; 1 % 0} 0", "8|8|9|9");
    }

    private static void guardsThatAreNone() {
        for (String n : new String[] {"8", "_1", "1r2", "'a'", "5 8", "5 _1", "(enc 5 5)", "(5 (5 5))", "2000000000"}) {
            fails("{" + n + " :: 9 ; 8} 0", DOMAIN);
            shows("{5 :: 7 ; " + n + " :: 9 ; 8} 0", "7");
        }
        fails("{ :: 9 ; 8} 0", VALUE);
        fails("{+ :: 9 ; 8} 0", SYNTAX);
        fails("{f := + :: 9 ; 8} 0", VALUE);
        ends("{5 :: 9 ; 8} 0", 0, 1 + 1 + 1 + 2 + 2 + 2 + 1);
    }

    /** "If one of the EVENTS 1 to 7 comes in this CALL": by its number, and by no other. */
    private static void everyEvent() {
        String[] bodies = {"1 +", "nope", "1 2 + 1 2 rho 1", "1 2 + 1 2 3", "1 % 0", "(5 6)[3]", "1001 rho 1"};
        for (int event = SYNTAX; event <= LIMIT; event++) {
            String body = bodies[event - 1];
            fails("{" + body + "} 0", event);
            for (int n = 0; n <= 7; n++) {
                String text = "{" + n + " :: 9 ; " + body + "} 0";
                if (n == 0 || n == event) shows(text, "9");
                else fails(text, event);
            }
        }
    }

    /** "its GUARDS are looked at from the last one on: the first that has the event's number, or 0, takes it". */
    private static void theLastGuardFirst() {
        shows("{5 :: 1 ; 5 :: 2 ; 1 % 0} 0 ; {5 :: 1 ; 4 :: 2 ; 1 % 0} 0 ; {0 :: 1 ; 5 :: 2 ; 1 % 0} 0 ; {5 :: 1 ; 0 :: 2 ; 1 % 0} 0",
            "2|1|2|2");
        shows("{5 :: 1 ; 4 :: 2 ; 3 :: 3 ; 1 % 0} 0 ; {5 :: 1 ; '' :: 2 ; 1 % 0} 0", "1|1");
        for (int n = 36; n <= 90; n++) {
            shows("{" + many("1 :: 0 ; ", n) + "5 :: 9 ; 1 % 0} 0", "9");
            shows("{5 :: 9 ; " + many("1 :: 0 ; ", n) + "1 % 0} 0", "9");
        }
        fails("{4 :: 2 ; 1 % 0} 0", DOMAIN);
        fails("{x := 1 % 0 ; 5 :: 2 ; 3} 0", DOMAIN);
    }

    /** "it and those behind it are gone (those ahead of it stand, also for p)". */
    private static void guardsAreGone() {
        shows("{5 :: 1 ; 5 :: 2 % 0 ; 1 % 0} 0", "1");
        fails("{5 :: 1 % 0 ; 1 % 0} 0", DOMAIN);
        fails("{5 :: 1 % 0 ; 4 :: 7 ; 1 % 0} 0", DOMAIN);
        fails("{5 :: (1 2) + 1 2 3 ; 4 :: 7 ; 1 % 0} 0", LENGTH);
        shows("{4 :: 8 ; 5 :: (1 2) + 1 2 3 ; 4 :: 7 ; 1 % 0} 0", "8");
        shows("{0 :: 1 ; 0 :: 2 % 0 ; 0 :: 3 % 0 ; 1 % 0} 0", "1");
        fails("{0 :: nope ; 0 :: 2 % 0 ; 0 :: 3 % 0 ; 1 % 0} 0", VALUE);
        shows("{2 :: 4 ; 0 :: nope ; 0 :: 2 % 0 ; 1 % 0} 0", "4");
    }

    /** "comes in this CALL (also in what it calls), and is not taken there". */
    private static void guardsOfOthers() {
        shows("{5 :: 1 ; {1 % right} 0} 0 ; {5 :: 1 ; 2 + {5 :: 3 ; 1 % right} 0} 0 ; {5 :: 1 ; {4 :: 3 ; 1 % right} 0} 0", "1|5|1");
        shows("{5 :: 1 ; {4 :: 3 ; 5 :: (1 2) + 1 2 3 ; 1 % right} 0} 0 ; {5 :: 1 ; {5 :: 3 % 0 ; 1 % right} 0} 0", "3|1");
        fails("{({5 :: 7 ; 2} 0) + 'a'} 1", DOMAIN);
        fails("{x := {5 :: 7 ; 2} 0 ; 1 % 0} 1", DOMAIN);
        fails("x := {5 :: 7 ; 1 % 0} 0 ; 1 % 0", DOMAIN);
        shows("{5 :: 1 ; exe '1 % 0'} 0 ; {5 :: 1 ; (% ) 0} 0 ; f := % ; {5 :: 1 ; f 0} 0 ; {5 :: 1 ; f\" 1 0} 0 ; {5 :: 1 ; %/ 1 0} 0",
            "1|1|1|1|1");
        fails("{5 :: 1 ; 2} 0 ; 1 % 0", DOMAIN);
        shows("{0 = right : 1 % 0 ; 3 = right : {5 :: 9 ; self right} 0 ; 5 :: right ; self right - 1} 2", "1");
    }

    /** "p is worked out, and its VALUE is what the CALL gives". */
    private static void whatAGuardGives() {
        shows("{5 :: x := 4 ; 1 % 0} 0 ; {5 :: '' ; 1 % 0} 0 ; {5 :: right ; 1 % 0} 3 ; 2 {5 :: left ; 1 % 0} 3 ; 1 + {5 :: 4 ; 1 % 0} 0",
            "4||3|2|5");
        fails("{5 :: ; 1 % 0} 0", VALUE);
        fails("{5 :: + ; 1 % 0} 0", SYNTAX);
        fails("{5 :: f := + ; 1 % 0} 0", VALUE);
        shows("{2 :: 7 ; 5 :: ; 1 % 0} 0 ; {1 :: 7 ; 5 :: + ; 1 % 0} 0", "7|7");
        shows("{5 :: {0 = right : 8 ; self right - 1} 3 ; 1 % 0} 0 ; {5 :: self 1 ; 1 % right} 0", "8|1");
        shows("{5 :: 7 ; x := 1 % 0 ; 8} 0 ; {5 :: 7 ; 1 % 0 ; 8} 0 ; {5 :: 7 ; 1 % 0 : 8 ; 9} 0 ; {5 :: 7 ; 1 % 0 :: 8 ; 9} 0", "7|7|7|7");
    }

    /** "What was assigned stays." */
    private static void whatWasAssignedStays() {
        shows("{5 :: x ; x := 3 ; 1 % 0} 0 ; {5 :: x y ; (x y) := 3 4 ; x + := 1 ; 1 % 0} 0", "3|4 4");
        shows("x := 1 ; {5 :: 0 ; x + := 5 ; 1 % 0} 0 ; x", "0|6");
        shows("x := 1 2 ; {5 :: 0 ; x[1] := 5 ; x[2] := 1 % 0} 0 ; x", "0|5 2");
        shows("{5 :: x ; (1 % 0) + x := 3} 0 ; {4 :: b ; a := 1 ; b := 7 ; (a b) := 1 2 3} 0", "3|7");
        shows("{5 :: 1 f 2 ; f := - ; 1 % 0} 0", "_1");
        House x = new House();
        due("LINK stays as it became", x.run("{5 :: 0 ; ? 10 'a'} 0"), 0);
        due("LINK", x.h.told(6), 16807);
    }

    /** "what was begun since in this CALL is over": it is open no more. */
    private static void whatWasBegunIsOver() {
        shows("({5 :: right + 1 ; " + many("(", 30) + "1 % 0" + many(")", 30) + "} pow 9) 0", "9");
        shows("({5 :: right + 1 ; (5 6)[1 % 0]} pow 45) 0", "45");
        shows("({5 :: right + 1 ; rev[1 % 0] 5 6} pow 45) 0", "45");
        shows("({5 :: right + 1 ; x := 1 2 ; x[1 % 0] := 3} pow 45) 0", "45");
        shows("({5 :: right + 1 ; x := 1 2 ; ((1 % 0) take x) := 3} pow 45) 0", "45");
        shows("({2 :: right + 1 ; nope[1]} pow 45) 0", "45");
        shows("({6 :: right + 1 ; (5 6)[3]} pow 45) 0", "45");
        shows("({5 :: right + 1 ; f := {1 % 0} ; f\" 1 2} pow 45) 0", "45");
        shows("({5 :: right + 1 ; exe '1 % 0'} pow 45) 0", "45");
        shows("({1 :: right + 1 ; exe '1 )'} pow 45) 0", "45");
        shows("({7 :: right + 1 ; {self right} 0} pow 45) 0", "45");
        shows("{5 :: " + many("(", 39) + "7" + many(")", 39) + " ; (5 6)[1 % 0]} 0", "7");
        shows("{7 :: " + many("(", 38) + "7" + many(")", 38) + " ; " + many("(5 6)[", 40) + "1" + many("]", 40) + "} 0", "7");
    }

    /** EVENT 8, STEPS, is taken by none. */
    private static void stepsAreNotTaken() {
        fails("{0 :: 9 ; ({right + 1} pow 2000000000) 0} 0", STEPS);
        fails("{0 1 2 3 4 5 6 7 :: 9 ; ({right + 1} pow 2000000000) 0} 0", STEPS);
        fails("({0 :: 9 ; {0 :: 8 ; (+ pow 2000000000) 0} 0} pow 3) 0", STEPS);
    }

    /** "A CALL without any such value: VALUE." */
    private static void noValue() {
        for (String body : new String[] {"", ";", ";\n;", "x := 1", "0 : 1", "5 :: 1", "f := +", "x := 1 ; 0 : 2 ; 5 :: 3 ; f := +", "# 1"}) {
            fails("{" + body + "\n} 0", VALUE);
        }
        shows("{2 :: 8 ; x := 1} 0 ; {2 :: 8} 0 ; {0 :: 8 ; 0 : 9} 0 ; {2 :: 8 ; {} 0} 0", "8|8|8|8");
        ends("{} 0", VALUE, 1 + 1 + 1 + 2);
    }

    /** "the VALUE of the last STATEMENT that is not EMPTY is what it gives (also of one that ENDS BY := ..)". */
    private static void executed() {
        shows("exe '1 + 2' ; exe '1 ; 2 ; ; ' ; exe 'x := 5' ; exe 'x := 5 ; x + 1 ;' ; exe '5' ; exe '(1 2)[2] # 3'", "3|2|5|6|5|2");
        shows("exe 'f := + ; 1 f 2' ; exe '{1 : 4 ; 5} 0' ; exe '{5 :: 4 ; 1 % 0} 0' ; exe '''ab'''", "3|4|4|ab");
        shows("exe 'exe ''1 + 1''' ; exe , '5' ; rho exe ''''''", "2|5|0");
        shows("1 + exe '2' ; exe\" '12' '3 4' ; x := exe 'y := 2' ; x y", "3|12 (3 4)|2 2");
        ends("exe '1'", 0, 1 + 1 + 1 + 2 + 2 + 1);
        ends("exe ';;1;;'", 0, 1 + 1 + 1 + 6 + 2 + 1);
        shows("exe\" 45 rho '1'", many("1 ", 44) + "1");
    }

    /** "W a vector of SIGNS (DOMAIN) is a text (SYNTAX: a FAULT)"; "VALUE if there is none, or it comes to nothing". */
    private static void executedWrongly() {
        fails("exe 2 2 rho '1'", RANK);
        fails("exe 2 2 rho 1", RANK);
        fails("exe 1", DOMAIN);
        fails("exe 1 2", DOMAIN);
        fails("exe '1' 2", DOMAIN);
        fails("exe enc '12'", DOMAIN);
        fails("exe ')' 2", DOMAIN);
        for (String text : new String[] {")", "(", "1 &", "1r0", "1 : 2", "1 :: 2", "0:1", "(1:2)", "abcdefghi", "12345678901", "$"}) {
            fails("exe '" + text + "'", SYNTAX);
        }
        for (String text : new String[] {"", " ", ";", " ; ; ", "# 1", "f := +", "1 ; f := +", "1 ; f := + ;", "nope", "()"}) {
            fails("exe '" + text + "'", VALUE);
        }
        fails("exe 0 rho 0", VALUE);
        fails("exe '+'", SYNTAX);
        fails("exe '1 ; +'", SYNTAX);
        fails("exe '+ ; 1'", SYNTAX);
        fails("exe '1 ; 1 % 0 ; 2'", DOMAIN);
        shows("x := 0 ; {1 :: x ; exe 'x := 1 ; )'} 0 ; {5 :: x ; exe 'x := 1 ; 1 % 0'} 0", "0|1");
        House x = new House();
        due("an EVENT in exe", x.run("1 ; exe '1 ; 2 ; 1 % 0'"), DOMAIN);
        due("comes in the STATEMENT of run()'s text", x.h.at(), 1);
        due("nothing of exe is SHOWN", x.shown(), "1\n");
    }

    /** "its STATEMENTS are done in the PLACE at hand". */
    private static void executedPlaces() {
        shows("{exe 'right + 1'} 5 ; 4 {exe 'left , right'} 5 ; {0 = right : 7 ; exe 'self right - 1'} 2", "6|4 5|7");
        shows("x := 1 ; {y := exe 'x := 3' ; x} 5 ; x", "3|1");
        shows("exe 'f := {right + 1} ; 0' ; f 5", "0|6");
        fails("{exe 'left'} 5", VALUE);
    }
}
