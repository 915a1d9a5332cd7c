/** Promise 4's functions, by the heads 6 and 7 of the document's Terms: ordinary arguments, edges, EVENTS. */
public final class FunctionsTest {
    private static final int RANK = 3;
    private static final int LENGTH = 4;
    private static final int DOMAIN = 5;
    private static final int INDEX = 6;
    private static final int LIMIT = 7;

    public static void main(String[] args) {
        oneArgument();
        twoArguments();
        pairs();
        extentsAndJoins();
        mixing();
        turning();
        cutting();
        sets();
        order();
        places();
        partsAndBases();
        chance();
        texts();
        House.end();
    }

    private static void shows(String text, String want) {
        House.shows(text, want);
    }

    private static void fails(String text, int event) {
        House.fails(text, event);
    }

    private static void oneArgument() {
        shows("+ _3 1r2", "_3 1r2");
        shows("- _3 1r2 0", "3 _1r2 0");
        shows("* _3 1r2 0", "_1 1 0");
        shows("% _3 1r2 4", "_1r3 2 1r4");
        fails("% 1 0", DOMAIN);
        shows("| _3 _1r2 4", "3 1r2 4");
        shows("! 0 1 5 12", "1 1 120 479001600");
        fails("! 13", LIMIT);
        fails("! _1", DOMAIN);
        fails("! 1r2", DOMAIN);
        shows("floor 7r2 _7r2 3 _1r3", "3 _4 3 _1");
        shows("ceil 7r2 _7r2 3 _1r3", "4 _3 3 0");
        shows("not 0 1", "1 0");
        fails("not 2", DOMAIN);
        fails("not 'a'", DOMAIN);
        shows("- 1 (2 3) (enc 4 5)", "_1 (_2 _3) ((_4 _5))");
        shows("- enc enc 1 2", "((_1 _2))");
        shows("rho - 0 3 rho ''", "0 3");
        shows("first - ''", "0");
        fails("- 1 'a'", DOMAIN);
        fails("% 0 'a'", DOMAIN);
        shows("rho - 2 3 rho 1", "2 3");
        shows("tally - 1000 rho 1 ; tally 1 + 1000 rho 1 ; tally - 500 rho enc , 1", "1000|1000|500");
    }

    private static void twoArguments() {
        shows("1r2 + 1r3", "5r6");
        shows("1 - 2", "_1");
        shows("2r3 * 3r2", "1");
        shows("1 % 3 ; 0 % 0 ; 0 % 5", "1r3|1|0");
        fails("1 % 0", DOMAIN);
        shows("2 ^ 10 ; 2 ^ _2 ; 1r2 ^ 3 ; _2 ^ 3 ; 0 ^ 0 ; 0 ^ 3", "1024|1r4|1r8|_8|1|0");
        shows("1 ^ 2000000000 ; _1 ^ 1999999999 ; _1 ^ _2000000000", "1|_1|1");
        shows("2 ^ 30 ; 2 ^ _30", "1073741824|1r1073741824");
        fails("2 ^ 31", LIMIT);
        fails("2 ^ _31", LIMIT);
        fails("0 ^ _1", DOMAIN);
        fails("2 ^ 1r2", DOMAIN);
        shows("3 | 7 ; 3 | _7 ; _3 | 7 ; 0 | 5 ; 1r2 | 7r3 ; 3 | 1r2", "1|2|_2|5|1r3|1r2");
        shows("2 ! 5 ; 0 ! 0 ; 5 ! 2 ; 16 ! 32", "10|1|0|601080390");
        fails("17 ! 35", LIMIT);
        shows("1999999999 ! 2000000000", "2000000000");
        fails("_1 ! 2", DOMAIN);
        fails("1r2 ! 2", DOMAIN);
        shows("3 min 2 ; 3 max 2 ; 1r2 min 1r3", "2|3|1r3");
        shows("1 < 2 ; 2 < 2 ; 2 <= 2 ; 2 > 1 ; 2 >= 3 ; 2 >= 2 ; 2 > 2", "1|0|1|1|0|1|0");
        shows("3 <= 2 ; 2 < 1 ; 1 > 2 ; 1 /= 1 ; 'a' /= 'a' ; 'a' /= 1", "0|0|0|0|0|1");
        shows("'a' = 'a' ; 'a' = 1 ; 'a' /= 'b' ; 1 = 1", "1|0|1|1");
        fails("'a' < 'b'", DOMAIN);
        fails("'a' + 1", DOMAIN);
        shows("0 0 1 1 and 0 1 0 1 ; 0 0 1 1 or 0 1 0 1", "0 0 0 1|0 1 1 1");
        fails("1 and 2", DOMAIN);
        fails("1r2 or 1", DOMAIN);
        shows("12 gcd 18 ; 0 gcd 0 ; 0 gcd _5 ; _4 gcd 6", "6|0|5|2");
        shows("4 lcm 6 ; 0 lcm 5 ; _4 lcm 6", "12|0|12");
        fails("1r2 gcd 1", DOMAIN);
        fails("65537 lcm 65539", LIMIT);
        fails("1r65537 + 1r65539", LIMIT);
        shows("1r2000000000 - 1r2000000000", "0");
        shows("2000000000 * 1r2000000000", "1");
    }

    private static void pairs() {
        shows("1 + 1 2 3", "2 3 4");
        shows("1 2 3 + 1", "2 3 4");
        shows("(, 1) + 2 2 rho 5", "[2 2]6 6 6 6");
        shows("rho (, 1) + 5", "1");
        shows("rho (1 1 rho 1) + , 5", "1 1");
        shows("rho (, 1) + 1 1 rho 5", "1 1");
        shows("rho (, 1) + ''", "0");
        shows("rho 5 + 0 3 rho 1", "0 3");
        fails("1 2 + 2 2 rho 1", RANK);
        fails("1 2 + 1 2 3", LENGTH);
        fails("1 2 3 + 2 3 rho 'a'", RANK);
        fails("1 2 + 'abc'", LENGTH);
        shows("1 (2 3) + 10", "11 (12 13)");
        shows("1 (2 3) + (1 2) 1", "(2 3) (3 4)");
        shows("(enc 1 2) + 1 2", "(2 3) (3 4)");
        shows("(enc 1 2) = enc 1 3", "(1 0)");
        fails("1 (2 3) + 1 (1 2 3)", LENGTH);
        fails("1 'a' + 2000000000 1", LIMIT);
        fails("'a' 1 + 1 2000000000", DOMAIN);
        shows("first (0 rho enc 1 2) + 0 rho enc 1 2", "0");
        // the SIZE of what is made so far passes 1000 with an item, ahead of what comes behind it
        fails("((enc 300 rho 1) , 1 1 1 1) + 1 , (3 rho enc 300 rho 1) , 5", LIMIT);
        fails("((enc 300 rho 1) , 1 1 1 'a') + 1 , (3 rho enc 300 rho 1) , 5", LIMIT);
        fails("((enc 300 rho 1) , 1 1 'a' 1) + 1 , (3 rho enc 300 rho 1) , 5", DOMAIN);
    }

    private static void extentsAndJoins() {
        shows("rho 5 ; rho 1 2 ; rho 2 3 rho 1", "|2|2 3");
        shows("2 2 rho 1 2 3", "[2 2]1 2 3 1");
        shows("3 rho 5 ; (0 rho 0) rho 7 8", "5 5 5|7");
        shows("2 rho 0 rho 'a'", "  ");
        shows("rho 0 2 rho 1", "0 2");
        shows("first 0 rho 'ab' ", " ");
        fails("(1 1 rho 2) rho 1", RANK);
        fails("_1 rho 1", DOMAIN);
        fails("1r2 rho 1", DOMAIN);
        fails("'a' rho 1", DOMAIN);
        shows(", 2 2 rho 1 2 3 4 ; rho , 5", "1 2 3 4|1");
        shows("1 , 2 ; 1 2 , 3 ; 1 , 2 3 ; 'ab' , 'cd'", "1 2|1 2 3|1 2 3|abcd");
        shows("(2 2 rho 1 2 3 4) , 9", "[2 3]1 2 9 3 4 9");
        shows("(2 2 rho 1 2 3 4) , 8 9", "[2 3]1 2 8 3 4 9");
        shows("(2 2 rho 1 2 3 4) ,[1] 8 9", "[3 2]1 2 3 4 8 9");
        shows("8 9 ,[1] 2 2 rho 1 2 3 4", "[3 2]8 9 1 2 3 4");
        shows("(2 2 rho 1 2 3 4) ,[1] 2 2 rho 5", "[4 2]1 2 3 4 5 5 5 5");
        fails("(2 2 rho 1) , 1 2 3", LENGTH);
        fails("(2 2 2 rho 1) , 1 2", RANK);
        fails("(2 2 rho 1) ,[3] 1 2", INDEX);
        fails("1 ,[2] 2", INDEX);
        shows("1 ,[1] 2", "1 2");
        fails("1 2 ,['a'] 3", DOMAIN);
        fails("1 2 ,[1 2] 3", LENGTH);
        fails("(2 2 2 rho 1) ,[9] 1 2", INDEX);
        shows("1 2 ,[1r2] 3 4", "[2 2]1 2 3 4");
        shows("1 2 ,[3r2] 3 4", "[2 2]1 3 2 4");
        shows("1 2 ,[3r2] 9", "[2 2]1 9 2 9");
        shows("1 ,[1r2] 2", "1 2");
        fails("1 ,[3r2] 2", INDEX);
        fails("1 2 ,[5r2] 3 4", INDEX);
        fails("1 2 ,[_1r2] 3 4", INDEX);
        fails("1 2 ,[1r2] 3 4 5", LENGTH);
        fails("1 2 ,[1r2] 2 2 rho 1", RANK);
        shows("rho (2 3 rho 1) ,[3r2] 0", "2 2 3");
        fails("(1 1 1 1 1 1 rho 1) ,[1r2] 0", LIMIT);
        shows("first '' ,[1r2] 0 rho 1 ; first (0 rho 1) ,[1r2] ''", " |0");
        fails("1 2 3 , 2 2 rho 1", LENGTH);
        fails("(2 3 rho 1) , 2 2 2 rho 1", LENGTH);
        shows("first '' , 0 rho 0 ; first (0 rho 0) , ''", " |0");
        shows("tally 5 ; tally 1 2 3 ; tally 4 2 rho 1 ; tally ''", "1|3|4|0");
        shows("depth 5 ; depth 'a' ; depth '' ; depth 1 (2 3) ; depth 0 rho enc enc 1 2", "0|0|1|2|3");
        shows("first 4 5 ; first (1 2) 3 ; first '' ; first 0 rho 5 'a'", "4|1 2| |0");
        shows("rho enc 1 2 ; enc 5 ; enc 1 2", "|5|(1 2)");
        shows("same 1 2 ; 3 same 4", "1 2|4");
    }

    private static void mixing() {
        shows("mix (1 2) (3 4 5)", "[2 3]1 2 0 3 4 5");
        shows("mix 'ab' 5", "[2 2]a b 5 0");
        shows("mix (2 3 rho iota 6) (7 8)", "[2 2 3]1 2 3 4 5 6 7 8 0 0 0 0");
        shows("mix 9 (2 3 rho iota 6)", "[2 2 3]9 0 0 0 0 0 1 2 3 4 5 6");
        shows("mix 1 2 3 ; mix 5 ; mix enc 1 2", "1 2 3|5|1 2");
        shows("mix (2 2 rho 1 2 3 4) (5 6)", "[2 2 2]1 2 3 4 5 6 0 0");
        shows("rho mix '' ; first mix ''", "0| ");
        shows("rho mix 0 rho enc 1 2 3", "0 3");
        shows("rho mix (0 rho 1) ''", "2 0");
        shows("first mix '' (0 rho 1)", " ");
        fails("mix enc\" 7 rho 1 1 1 1 1 1 1 , enc 2 501 rho 1", LIMIT);
        fails("mix (1000 rho enc enc 1 1) ", LIMIT);
        fails("mix (600 rho 1) (, 2)", LIMIT);
        shows("split 2 2 rho 1 2 3 4", "(1 2) (3 4)");
        shows("split 5 ; split 1 2", "5|(1 2)");
        shows("rho split 2 3 4 rho 1", "2 3");
        shows("rho split 3 0 rho 'a' ; split 2 0 rho 'a'", "3|() ()");
        shows("rho first split 0 3 rho 'a' ; enc first split 0 3 rho 'a'", "3|(   )");
        shows("enl 1 (2 'a') (enc enc 3 4)", "1 2 a 3 4");
        shows("rho enl 5 ; first enl '' ; rho enl 0 rho enc 1 2", "1|0|0");
        shows("first enl 0 rho enc 'ab'", "0");
    }

    private static void turning() {
        shows("rev 1 2 3 ; rev 5 ; rev 'abc'", "3 2 1|5|cba");
        shows("rev 2 3 rho iota 6 ; rev[1] 2 3 rho iota 6", "[2 3]3 2 1 6 5 4|[2 3]4 5 6 1 2 3");
        fails("rev[1] 5", INDEX);
        fails("rev[2] 1 2", INDEX);
        fails("rev[0] 1 2", INDEX);
        fails("rev['a'] 5", DOMAIN);
        fails("rev[1 2] 5", LENGTH);
        shows("1 rot 1 2 3 ; _1 rot 1 2 3 ; 7 rot 1 2 3 ; _2000000000 rot 1 2 3", "2 3 1|3 1 2|2 3 1|2 3 1");
        shows("first 1 rot '' ; first rev ''", " | ");
        shows("1 2 rot 2 3 rho iota 6", "[2 3]2 3 1 6 4 5");
        shows("1 rot[1] 2 3 rho iota 6", "[2 3]4 5 6 1 2 3");
        shows("0 1 0 rot[1] 2 3 rho iota 6", "[2 3]1 5 3 4 2 6");
        shows("3 rot 5 ; 1 rot ''", "5|");
        fails("(, 1) rot 1 2 3", RANK);
        fails("(, 1) rot 5", RANK);
        fails("1 2 3 rot 2 3 rho 1", LENGTH);
        fails("1r2 rot 1 2", DOMAIN);
        fails("1r2 rot 5", DOMAIN);
        fails("(, 'a') rot[2] 1 2", INDEX);
        shows("tr 2 3 rho iota 6 ; tr 1 2 ; tr 5", "[3 2]1 4 2 5 3 6|1 2|5");
        shows("2 1 tr 2 3 rho iota 6 ; 1 1 tr 2 3 rho iota 6 ; 1 2 tr 2 2 rho iota 4", "[3 2]1 4 2 5 3 6|1 5|[2 2]1 2 3 4");
        shows("rho 2 3 1 tr 2 3 4 rho 1 ; rho 2 1 2 tr 2 3 4 rho 1", "4 2 3|3 2");
        shows("1 tr 1 2 ; (0 rho 0) tr 5", "1 2|5");
        fails("1 2 tr 1 2", LENGTH);
        fails("(1 1 rho 1) tr 1 2", RANK);
        fails("'a' tr 1 2", DOMAIN);
        fails("1 3 tr 2 2 rho 1", INDEX);
        fails("2 2 tr 2 2 rho 1", INDEX);
        fails("0 1 tr 2 2 rho 1", INDEX);
        shows("rho tr 0 3 rho 'a' ; first tr 0 3 rho 'a'", "3 0| ");
    }

    private static void cutting() {
        shows("2 take 1 2 3 ; _2 take 1 2 3 ; 5 take 1 2 ; _5 take 1 2", "1 2|2 3|1 2 0 0 0|0 0 0 1 2");
        shows("0 take 1 2 ; first 0 take 'ab'", "| ");
        shows("1 2 take 2 3 rho iota 6 ; _1 _2 take 2 3 rho iota 6", "[1 2]1 2|[1 2]5 6");
        shows("1 take 2 3 rho iota 6", "[1 3]1 2 3");
        shows("3 take 5 ; 2 2 take 5 ; (0 rho 0) take 5", "5 0 0|[2 2]5 0 0 0|5");
        shows("3 4 take 2 3 rho 'abcdef'", "[3 4]abc def     ");
        fails("1 2 take 1 2", LENGTH);
        fails("(1 1 rho 1) take 1 2", RANK);
        fails("1r2 take 1 2", DOMAIN);
        fails("1001 take 1", LIMIT);
        fails("1 1 1 1 1 1 1 take 5", LIMIT);
        shows("1 drop 1 2 3 ; _1 drop 1 2 3 ; rho 5 drop 1 2 3 ; rho _2000000000 drop 1 2", "2 3|1 2|0|0");
        shows("1 1 drop 2 3 rho iota 6 ; 1 drop 2 3 rho iota 6", "[1 2]5 6|[1 3]4 5 6");
        shows("rho 1 drop 5 ; rho 0 0 drop 5 ; first 9 drop 'ab'", "0|1 1| ");
        fails("1 2 drop 1 2", LENGTH);
        fails("'a' drop 1 2", DOMAIN);
        shows("2 0 1 rep 4 5 6 ; 2 rep 4 5 ; 2 _1 rep 'ab'", "4 4 6|4 4 5 5|aa ");
        shows("3 rep 5 ; 1 2 rep 5 ; 1 _2 1 rep 5 ; 0 rep 5", "5 5 5|5 5 5|5 0 0 5|");
        shows("1 2 rep 2 2 rho iota 4 ; 1 2 rep[1] 2 2 rho iota 4", "[2 3]1 2 2 3 4 4|[3 2]1 2 3 4 3 4");
        shows("1 0 2 rep 2 1 rho 7 8", "[2 3]7 7 7 8 8 8");
        shows("(, 2) rep 1 2", "1 1 2 2");
        fails("1 2 rep 1 2 3", LENGTH);
        fails("(1 1 rho 1) rep 1 2", RANK);
        fails("1r2 rep 1 2", DOMAIN);
        fails("600 600 rep 1 2", LIMIT);
        fails("2000000000 _2000000000 rep 1 2", LIMIT);
        fails("2 rep[1] 5", INDEX);
        shows("rho 2 rep ''", "0");
        shows("1 0 1 expand 4 5 ; 1 0 1 expand 'ab' ; 1 0 1 expand 7", "4 0 5|a b|7 0 7");
        shows("1 0 1 expand[1] 2 2 rho iota 4", "[3 2]1 2 0 0 3 4");
        shows("0 0 expand '' ; rho 0 0 expand ''", "  |2");
        shows("1 1 0 expand , 9", "9 9 0");
        fails("1 0 expand 4 5", LENGTH);
        fails("1 2 expand 4 5 6", DOMAIN);
        fails("1 1 1 expand 4 5", LENGTH);
        fails("(1 1 rho 1) expand 4 5", RANK);
    }

    private static void sets() {
        shows("uniq 1 2 1 3 2 ; uniq 'hello' ; uniq (1 2) 3 (1 2) ; rho uniq 5", "1 2 3|helo|(1 2) 3|1");
        fails("uniq 2 2 rho 1", RANK);
        shows("first uniq ''", " ");
        shows("1 2 3 2 without 2 ; 'abc' without 'b' ; first 'a' without 'a'", "1 3|ac| ");
        shows("1 2 1 union 2 3 3 ; 5 union 5 ; '' union 1 2", "1 2 1 3 3|5|1 2");
        shows("1 2 1 3 inter 1 3 ; first (0 rho 0) inter 'a'", "1 1 3|0");
        fails("(1 1 rho 1) union 1", RANK);
        fails("1 without 1 1 rho 1", RANK);
        fails("1 inter 1 1 rho 1", RANK);
        fails("(1 1 rho 1) without 1", RANK);
        fails("(1 1 rho 1) inter 1", RANK);
        fails("1 union 1 1 rho 1", RANK);
        fails("(iota 600) union - iota 600", LIMIT);
        shows("1 5 (1 2) mem (1 2) 5 7 ; 5 mem 5 ; 'a' mem 'abc' ; rho (2 2 rho 1) mem ''", "0 1 1|1|1|2 2");
        shows("(1 2) match 1 2 ; 1 2 match 1 3", "1|0");
    }

    private static void order() {
        fails("up 5", RANK);
        fails("down 'a'", RANK);
        shows("up 'banana' ; down 'banana'", "2 4 6 1 3 5|3 5 1 2 4 6");
        shows("up 3 2 rho 2 1 1 9 2 0 ; down 3 2 rho 2 1 1 9 2 0", "2 3 1|1 3 2");
        shows("up 3 0 rho 1 ; rho up 0 3 rho 1 ; up 1r2 1r3 _1", "1 2 3|0|3 2 1");
        shows("up 5 5 5 ; down 5 5 5", "1 2 3|1 2 3");
    }

    private static void places() {
        shows("iota 3 ; iota , 2 ; rho iota 0 ; iota 2 2", "1 2 3|1 2|0|[2 2](1 1) (1 2) (2 1) (2 2)");
        shows("rho iota 2 0 ; enc first iota 2 0", "2 0|(0 0)");
        shows("rho iota 0 rho 0 ; iota 0 rho 0 ; depth iota 0 rho 0", "|()|2");
        fails("iota _1", DOMAIN);
        fails("iota 'a'", DOMAIN);
        fails("iota 1r2", DOMAIN);
        fails("iota 2 2 rho 1", RANK);
        fails("iota 1001", LIMIT);
        fails("iota 20 20", LIMIT);
        shows("tally iota 333 1", "333");
        fails("iota 334 1", LIMIT);
        fails("iota 1 1 1 1 1 1 1", LIMIT);
        shows("4 5 6 iota 6 4 9 ; 'abc' iota 'b' ; 'abc' iota 2 2 rho 'ac'", "3 1 4|2|[2 2]1 3 1 3");
        fails("5 iota 5", RANK);
        fails("(1 1 rho 1) iota 5", RANK);
        shows("where 0 1 0 2 ; where 2 2 rho 1 0 0 1 ; rho where 0 0", "2 4 4|(1 1) (2 2)|0");
        shows("enc first where 1 2 rho 0", "(0 0)");
        shows("tally where , 1000", "1000");
        fails("where , 1001", LIMIT);
        fails("where 1", RANK);
        fails("where _1 0", DOMAIN);
        fails("where 'ab'", DOMAIN);
        fails("where 600 600", LIMIT);
        shows("'an' find 'banana' ; 'x' find 'abx' ; (1 2) find 2 2 rho 1 2 3 4", "0 1 0 1 0 0|0 0 1|[2 2]1 0 0 0");
        shows("(2 2 rho 1) find 1 1 1 ; '' find 'ab' ; 5 find 5 ; (3 0 rho 1) find 3 2 rho 1", "0 0 0|1 1|1|[3 2]1 1 0 0 0 0");
        shows("2 pick 4 5 6 ; (2 1) pick 1 (5 6) ; (enc 1 2) pick 2 2 rho 7 8 9 1", "5|5|8");
        shows("(0 rho 0) pick 5 6 ; 1 1 pick (3 4) 5", "5 6|3");
        shows("(enc 0 rho 0) pick 5", "5");
        fails("1 pick 5", RANK);
        fails("(1 1 rho 1) pick 5 6", RANK);
        fails("(enc 1 2) pick 5 6", RANK);
        fails("(enc 1 1 rho 1) pick 5 6", RANK);
        fails("3 pick 5 6", INDEX);
        fails("0 pick 5 6", INDEX);
        fails("'a' pick 5 6", DOMAIN);
        fails("3 'a' pick 5 6", INDEX);
        fails("1 1 1 pick (enc 3 4) 5", RANK);
    }

    private static void partsAndBases() {
        shows("1 1 2 2 1 part 'abcde' ; 1 0 1 1 part 5 6 7 8", "(ab) (cde)|(5) (7 8)");
        shows("2 1 3 0 1 part 'abcde' ; rho 0 0 part 'ab' ; enc first 0 0 part 'ab'", "(ab) (c) (e)|0|()");
        shows("0 1 0 1 0 penc 'abcde' ; 0 0 penc 1 2", "(bc) (de)|");
        shows("1 part 5 ; depth 1 penc 'a'", "(5)|2");
        fails("1 1 part 'abc'", LENGTH);
        fails("1 part 'ab'", LENGTH);
        fails("_1 1 part 'ab'", DOMAIN);
        fails("2 1 penc 'ab'", DOMAIN);
        fails("(1 2 rho 1) part 'ab'", RANK);
        shows("2 2 2 enco 5 ; 0 10 enco 123 ; 10 10 enco 123", "1 0 1|12 3|2 3");
        shows("24 60 enco 100 200 ; 10 enco 17 ; rho (0 rho 0) enco 1 2", "[2 2]1 3 40 20|7|0 2");
        shows("1 0 1 enco 7r2", "0 3 1r2");
        shows("a := 10 10 ; a enco first 123 1 2 3", "2 3");
        shows("10 10 enco _1 ; 3r2 2 enco 7r2", "9 9|1 3r2");
        fails("'a' enco 1", DOMAIN);
        fails("(1 1 rho 2) enco 1", RANK);
        fails("2 enco 1 (2 3)", DOMAIN);
        fails("2 enco 'a' 1", DOMAIN);
        fails("2 deco 'a' 1", DOMAIN);
        fails("2 deco 1 1 rho 1", RANK);
        fails("0 1r2 enco 2000000000", LIMIT);
        fails("1 1r2 enco 2000000000", LIMIT);
        shows("2 deco 1 0 1 ; 24 60 60 deco 1 1 1 ; 2 deco 0 rho 0", "5|3661|0");
        shows("2 deco 5 ; (, 2) deco 1 1 ; 1r2 deco 1 1", "5|3|3r2");
        fails("2 2 deco 1 1 1", LENGTH);
        fails("2 2 deco 1", LENGTH);
        fails("'a' deco 1", DOMAIN);
        fails("(1 1 rho 2) deco 1", RANK);
        fails("2000000000 deco 2 _2000000000", LIMIT);
    }

    private static void chance() {
        shows("? 10 10 ; ? 1", "8 10|1");
        shows("? 10 10 ; 3 ? 5", "8 10|4 1 2");
        shows("rho 0 ? 5 ; rho 3 ? 3", "0|3");
        fails("? 0", DOMAIN);
        fails("? 1r2", DOMAIN);
        fails("? 'a'", DOMAIN);
        fails("4 ? 3", DOMAIN);
        fails("_1 ? 3", DOMAIN);
        fails("1 2 ? 3", LENGTH);
        fails("1 ? 1 2", LENGTH);
        fails("1 ? 1001", LIMIT);
        fails("1002 ? 1001", DOMAIN);
        House x = new House();
        x.run("? 5 'a'");
        House.due("LINK stays as it became", x.h.told(6), 16807);
        x.run("2 ? 5");
        House.due("LINK goes on twice", x.h.told(6), (int) (16807L * (16807L * 16807 % 2147483647L) % 2147483647L));
    }

    private static void texts() {
        shows("fmt _5 ; fmt 1r2 ; fmt 'a' ; fmt 1 'a' 2 ; fmt 'ab' 1", "_5|1r2|a|1 a 2|(ab) 1");
        shows("rho fmt 123 ; rho fmt '' ; fmt 2 2 rho 1 ; fmt 2 2 rho 'a' ; fmt 0 2 rho 1", "3|0|[2 2]1 1 1 1|[2 2]aaaa|[0 2]");
        shows("fmt enc 1 2 ; fmt enc enc 'ab' ; rho fmt 5", "(1 2)|((ab))|1");
        shows("first fmt ''", " ");
        fails("fmt 1000 rho 1", LIMIT);
        shows("rho fmt 500 rho 1", "999");
        shows("rho fmt 1000 rho 'a'", "1000");
    }
}
