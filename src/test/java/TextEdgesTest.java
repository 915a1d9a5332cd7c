import java.util.Arrays;

/** Head 2 of the document's Terms, sentence by sentence: TOKENS, their bounds, and FAULTS with their places. */
public final class TextEdgesTest extends House {
    /** Functions' WORDS, operators' WORDS, and the others. */
    static final String[] WORDS = ("floor ceil not min max and or gcd lcm rho tally depth first enc mix split enl rev rot tr take "
        + "drop rep expand uniq up down iota where mem find pick match without union inter part penc enco deco fmt exe same "
        + "key rank pow left right self").split(" ");

    public static void main(String[] args) {
        greatestTexts();
        longestTokens();
        blanksAndComments();
        numbers();
        digits();
        whatStandsRightBehind();
        quoted();
        names();
        words();
        bytesThatBeginNothing();
        closers();
        parting();
        colons();
        firstFault();
        openOnes();
        statements();
        earlierTexts();
        end();
    }

    /** "THE TAPE has bytes, 4000 at most." */
    private static void greatestTexts() {
        shows(many(" ", 3999) + "5", "5");
        shows(many(";", 3999) + "5", "5");
        ends(many(";", 4000), 0, 0);
        ends("5 #" + many("x", 3997), 0, 2);
        fault(many(" ", 3999) + "$", 3999);
        fault(many("(", 4000), 3999);
        fails(many("1 ", 1000) + many(" ", 2000), 0);
        fails(many("1 ", 1001), LIMIT);
        House x = new House();
        due("a text of 4000 bytes", x.run("x := '" + many("a", 3990) + "'"), LIMIT);
        due("the next one is read alone", x.run("5"), 0);
        due("the next one is read alone", x.shown(), "5\n");
    }

    /** "A text's TOKENS are as long as can be". */
    private static void longestTokens() {
        shows("1/=2;3<=2;2>=2;3<4;4>3", "1|0|1|1|1");
        fails("1 / = 2", SYNTAX);
        fails("1 < = 2", SYNTAX);
        fails("1 > = 2", SYNTAX);
        fails("x : = 2", -12);
        fails("1=<2", SYNTAX);
        shows("=/3 3;/=/3 4", "1|1");
        shows("x:=5;x", "5");
        fails("{1:=2}0", SYNTAX);
        fails("{1: =2}0", SYNTAX);
        // :: and = , not : and :=
        fails("{0::=}0", SYNTAX);
        shows("{0::5;+'a'}0", "5");
        fault("{0: :5}0", 4);
        shows("{x:=3;x}0", "3");
        fault("{:::5}0", 3);
    }

    /** "with blanks (32) between or not; # and what is behind it, up to a byte 10 or the end, is nothing". */
    private static void blanksAndComments() {
        shows("   1   +   2   ", "3");
        shows("1+2", "3");
        shows("1 # + 2", "1");
        shows("1 # + 2\n3", "1|3");
        shows("# 1\n# 2\n3 # 4", "3");
        shows("1 # ' ( [ { $ \377 \0 \t ) ] } : ;\n2", "1|2");
        shows("'#' , '# a'", "## a");
        shows("{1 : 2 # ; 3\n4} 0 # }", "2");
        shows("#", "");
        shows("##\n#", "");
        fault("(1 # )\n)", 6);
        fault("(1 # )", 0);
        fault("1\t2", 1);
        fault("1\r\n2", 1);
    }

    /** "_ or nothing, 1 to 10 digits, and, if r and a digit are right behind, r and 1 to 10 digits". */
    private static void numbers() {
        shows("0 _0 00 7 _7 1r2 _1r2 4r6 _0r5 0r1", "0 0 0 7 _7 1r2 _1r2 2r3 0 0");
        shows("2000000000 _2000000000 1r2000000000 _1r2000000000 2000000000r2000000000",
            "2000000000 _2000000000 1r2000000000 _1r2000000000 1");
        fault("2000000001", 0);
        fault("_2000000001", 0);
        fault("1r2000000001", 0);
        fault("9999999999", 0);
        fault("1 2147483648", 2);
        fault("1 4294967297", 2);
        // each is looked at ahead of lowest terms
        fault("4000000000r2", 0);
        fault("2r4000000000", 0);
        fault("1r0", 0);
        fault("5 _1r0", 2);
        fault("1r0000000000", 0);
        fault("0r0", 0);
        fault("_", 0);
        fault("1 _ 5", 2);
        fault("__1", 0);
        fault("1__2", 1);
        fault("_a", 0);
        fault("_r2", 0);
    }

    /** "11 digits side by side are a FAULT". */
    private static void digits() {
        shows("0000000001 _0000000002 1r0000000003 0000000001r0000000004", "1 _2 1r3 1r4");
        shows("0000000000", "0");
        fault("00000000001", 0);
        fault("_00000000001", 0);
        fault("1r00000000001", 0);
        fault("5 1r00000000000", 2);
        fault("00000000000", 0);
        fault("12345678901", 0);
        fault("1r12345678901", 0);
        fault("00000000001r2", 0);
    }

    /** "what else stands right behind is another token: 1abc is 1 and abc, 2r3r4 is 2r3 and r4". */
    private static void whatStandsRightBehind() {
        shows("abc := 5 ; 1abc", "1 5");
        shows("r4 := 7 ; 2r3r4", "2r3 7");
        shows("r := 8 ; 1r ; 1r + 1", "1 8|2 9");
        shows("r := 8 ; _1r_2", "_1 8 _2");
        shows("ra2 := 8 ; 3ra2", "3 8");
        shows("1_2 3'a'4", "1 _2 3 a 4");
        shows("1r2_3", "1r2 _3");
        shows("1(2)3", "1 2 3");
        shows("r2r3 := 4 ; r2r3", "4");
        fails("1abc", VALUE);
        fault("1abcdefghi", 1);
    }

    /** "' , bytes 32 .. 126, ' ; '' within is one ' ; one byte: RANK 0 with that SIGN, else the VECTOR of them". */
    private static void quoted() {
        about("q := 'a'", 0, 1, 1, 0);
        about("q := ' '", 0, 1, 1, 0);
        about("q := ''''", 0, 1, 1, 0);
        about("q := 'ab'", 1, 2, 2, 1);
        about("q := ''''''", 1, 2, 2, 1);
        empty("q := ''", "0", " ");
        shows("'it''s' ; '''' ; '''''' ; 'a''''b' ; '''a'''", "it's|'|''|a''b|'a'");
        shows("' !~' ; '~' ; '#;:{[('", " !~|~|#;:{[(");
        StringBuilder all = new StringBuilder();
        for (char c = 32; c <= 126; c++) all.append(c == 39 ? "''" : String.valueOf(c));
        shows("tally '" + all + "'", "95");
        for (int c : new int[] {0, 9, 10, 31, 127, 128, 200, 255}) {
            fault("1 '" + (char) c + "'", 2);
            fault("1 'ab" + (char) c + "'", 2);
        }
        fault("'", 0);
        fault("'abc", 0);
        fault("1 'abc''", 2);
        fault("'''", 0);
        fault("'a' 'b", 4);
        fault("'a\n' $", 0);
        shows("tally '" + many("a", 1000) + "'", "1000");
        ends("'" + many("a", 1001) + "'", LIMIT, 2);
        shows("tally '" + many("''", 1000) + "'", "1000");
        ends("'" + many("''", 1001) + "'", LIMIT, 2);
    }

    /** "letters a .. z and digits, a letter first, 1 to 8 in all: a WORD, or else a NAME." */
    private static void names() {
        shows("a := 1 ; z := 2 ; a0 := 3 ; abcdefgh := 4 ; a1234567 := 5 ; a z a0 abcdefgh a1234567", "1 2 3 4 5");
        fault("abcdefghi", 0);
        fault("1 a12345678", 2);
        fault("1 floorfloor", 2);
        shows("abcdefgh := 1 ; abcdefg := 2 ; abcd := 3 ; abcdefgh abcdefg abcd", "1 2 3");
        shows("abcdefga := 1 ; abcdefgb := 2 ; bbcdefga := 3 ; abcdefga abcdefgb bbcdefga", "1 2 3");
        shows("abce := 1 ; abde := 2 ; abcd0 := 3 ; abce abde abcd0", "1 2 3");
        fault("A", 0);
        fault("aB", 1);
        fault("a_b := 1", 1);
    }

    /** A WORD is no NAME; what is longer, or shorter, by a letter is one. */
    private static void words() {
        for (String word : WORDS) {
            ends(word + " := 5", SYNTAX, 3);
            House x = new House();
            due("view " + word, x.view(word), -1);
            due("forget " + word, x.forget(word), -1);
            shows(word + "x := 7 ; " + word + "x", "7");
            String less = word.substring(0, word.length() - 1);
            if (!Arrays.asList(WORDS).contains(less)) shows(less + " := 7 ; " + less, "7");
        }
    }

    /** "what begins no token". */
    private static void bytesThatBeginNothing() {
        String tokens = " #'0123456789_abcdefghijklmnopqrstuvwxyz+-*%^|!?,=/<>\\\"~@.()[]{};:\n";
        for (int c = 0; c < 256; c++) {
            if (tokens.indexOf(c) < 0) fault("1 " + (char) c + " 2", 2);
        }
        fault("$", 0);
        fault("1 ; 2 ; $", 8);
        fault("{right $} 1", 7);
    }

    /** "a closer ) ] } that is not of the innermost opener". */
    private static void closers() {
        fault(")", 0);
        fault("]", 0);
        fault("}", 0);
        fault("(1]", 2);
        fault("(1}", 2);
        fault("x[1)", 3);
        fault("x[1}", 3);
        fault("{1)", 2);
        fault("{1]", 2);
        fault("(1))", 3);
        fault("([1)]", 3);
        fault("{([1])})", 7);
        shows("{(1 2)[({right}1)]}0", "1");
    }

    /** "; or the byte 10 directly in ( ) ; the byte 10 directly in [ ]" (that opener is the innermost one there). */
    private static void parting() {
        fault("(1;2)", 2);
        fault("(1\n2)", 2);
        fault("(;)", 1);
        fault("{(1;2)}", 3);
        fault("x[(1;2)]", 4);
        fault("x[1\n2]", 3);
        fault("{x[1\n2]}", 4);
        fails("(1 2)[1;2]", RANK);
        shows("({1;2}0)", "1");
        shows("({x:=1\n2}0)", "2");
        shows("(5 6)[{x:=1\n2}0]", "6");
        shows("({(1 2 rho 3 4)[1;2]}0)", "4");
    }

    /** ": or :: not directly in { }, or behind another one in the same STATEMENT". */
    private static void colons() {
        fault(":", 0);
        fault("::", 0);
        fault("1:2", 1);
        fault("1::2", 1);
        fault("(1:2)", 2);
        fault("{(1:2)}", 3);
        fault("{x[1:2]}", 4);
        fault("{(1::2)}", 3);
        fault("{1:2:3}", 4);
        fault("{1:2::3}", 4);
        fault("{1::2:3}", 5);
        fault("{1::2::3}", 5);
        fault("{1:{2:3}4:5}", 9);
        fault("{1:{2:3;4:5};6:7:8}", 16);
        fault("{1:2}:", 5);
        fault("{1:(2;3)}", 5);
        shows("{0:2;1:3}0", "3");
        shows("{0:2\n1:3}0", "3");
        shows("{0::2;0:3;1:4}0", "4");
        shows("{0:{0:1;2}0;1:{0:3;1:4}0}0", "4");
        shows("{x:=(1 2 rho 5 6)[1;2];1:x}0", "6");
    }

    /** "FAULTS, the first from the left". */
    private static void firstFault() {
        fault("$ )", 0);
        fault(") $", 0);
        fault("( $", 2);
        fault("( ) ) (", 4);
        fault("'a $", 0);
        fault("1 # $\n $", 7);
        fault("{ [ 1 } ]", 6);
        fault("(1;2 $", 2);
        House x = new House();
        due("nothing is done of a text with a FAULT", x.run("x := 5 ; 1 ; $"), -23);
        due("nothing is done", x.h.told(0), 0);
        due("nothing is SHOWN", x.h.shown(), 0);
    }

    /** "If there is none of these: the last opener without its closer." */
    private static void openOnes() {
        fault("(", 0);
        fault("[", 0);
        fault("1 {", 2);
        fault("(1 (2)", 0);
        fault("(1 (2", 3);
        fault("( [ (1)", 2);
        fault("{ [ ( 1 ) ] ; { } ; [", 20);
        fault("{ 1 ; ( ) # }", 0);
        fault("x[1", 1);
    }

    /** "; and the byte 10 part the STATEMENTS (any number, EMPTY ones too)". */
    private static void statements() {
        shows("1;2\n3", "1|2|3");
        shows(";;\n;1;;\n", "1");
        shows("", "");
        shows("\n\n", "");
        shows("{;;\n;1;;}0", "1");
        fails("{}0", VALUE);
        fails("{;\n;}0", VALUE);
        House x = new House();
        due("EMPTY ones are counted", x.run(";;\n;1+'a';"), DOMAIN);
        due("at", x.h.at(), 4);
        due("steps", x.h.steps(), 7);
    }

    /** What an earlier text had is no part of a later, shorter one. */
    private static void earlierTexts() {
        House x = new House();
        due("the first text", x.run("a:=1/=2;b:='ab''c'"), 0);
        due("ends by :", x.run("a:"), -11);
        due("the first text", x.run("a:=1/=2;b:='ab''c'"), 0);
        due("ends within a QUOTED", x.run("a:=1/=2;b:='ab'"), 0);
        due("ends by /", x.run("a:=1/"), SYNTAX);
        due("the first text", x.run("abcdefgh:=1r2345"), 0);
        due("ends within a NAME", x.run("abcdefg"), VALUE);
        due("ends within a NUMBER", x.run("abcdefgh:=1r23"), 0);
        due("value", x.run("abcdefgh"), 0);
        due("value", x.shown(), "1r23\n");
        due("the first text", x.run("abcdefgh := 1 # 2"), 0);
        due("ends ahead of #", x.run("abcdefgh := 1 "), 0);
    }
}
