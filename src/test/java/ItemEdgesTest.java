/** Head 6 of the document's Terms, sentence by sentence: the functions that go item by item. */
public final class ItemEdgesTest extends House {
    private static final String[] ALONE = {"+", "-", "*", "%", "|", "!", "floor", "ceil", "not", "?"};
    private static final String[] BESIDE = {"+", "-", "*", "%", "^", "|", "!", "min", "max", "<", "<=", ">=", ">", "=", "/=", "and",
        "or", "gcd", "lcm"};

    public static void main(String[] args) {
        aloneExtents();
        aloneItems();
        factorials();
        wholesAroundANumber();
        chance();
        besideExtents();
        besideWrongExtents();
        besideBoxes();
        signs();
        sums();
        quotients();
        powers();
        residues();
        choices();
        comparisons();
        truths();
        divisors();
        inOrder();
        sizesOnTheWay();
        exactOnTheWay();
        empties();
        end();
    }

    /** "With one argument: the extents of it; each item that is a BOX becomes the value of the function .., BOXED". */
    private static void aloneExtents() {
        shows("rho - 5 ; rho - , 5 ; rho - 2 3 rho 1 ; rho - 0 3 rho 1", "|1|2 3|0 3");
        shows("- 1 (2 (3 4)) (enc 5 6) ; - enc enc 1 2 ; rho - enc 1 2", "_1 (_2 (_3 _4)) ((_5 _6))|((_1 _2))|");
        shows("- 1 (0 rho 5) ; rho mix - 1 (2 0 rho 5)", "_1 ()|2 2 1");
        for (String f : ALONE) {
            fails(f + " 'a'", DOMAIN);
            fails(f + " 1 'a'", DOMAIN);
            fails(f + " 1 (1 'a')", DOMAIN);
            fails(f + " 1 (enc 1 'a')", DOMAIN);
        }
    }

    private static void aloneItems() {
        shows("+ 0 _3 1r2 ; - 0 _3 1r2 ; * 0 _3 1r2 _1r2 2000000000", "0 _3 1r2|0 3 _1r2|0 _1 1 _1 1");
        shows("% 1 _1 2 _1r2 2000000000 1r2000000000 _2000000000", "1 _1 1r2 _2 1r2000000000 2000000000 _1r2000000000");
        fails("% 0", DOMAIN);
        fails("% 1 2 0", DOMAIN);
        shows("| 0 _3 3 _1r2 _2000000000", "0 3 3 1r2 2000000000");
        shows("not 0 1", "1 0");
        for (String x : new String[] {"2", "_1", "1r2", "'a'"}) fails("not " + x, DOMAIN);
    }

    /** "! the factorial of a WHOLE 0 .. (DOMAIN)". */
    private static void factorials() {
        shows("! 0 1 2 3 12", "1 1 2 6 479001600");
        fails("! 13", LIMIT);
        fails("! 14", LIMIT);
        fails("! 2000000000", LIMIT);
        fails("! _1", DOMAIN);
        fails("! _2000000000", DOMAIN);
        fails("! 1r2", DOMAIN);
        fails("! 27r2", DOMAIN);
    }

    /** "floor, ceil the greatest WHOLE not above, least not below". */
    private static void wholesAroundANumber() {
        shows("floor 0 5 _5 1r2 _1r2 7r2 _7r2 1r2000000000 _1r2000000000 2000000000", "0 5 _5 0 _1 3 _4 0 _1 2000000000");
        shows("ceil 0 5 _5 1r2 _1r2 7r2 _7r2 1r2000000000 _1r2000000000 _2000000000", "0 5 _5 1 0 4 _3 1 0 _2000000000");
    }

    /** "? of a WHOLE n 1 .. (DOMAIN): LINK becomes 16807 LINK modulo 2147483647, then ORIGIN and LINK modulo n are added". */
    private static void chance() {
        House x = new House();
        due("? 1", x.run("? 1 1 1 ; ? 2000000000"), 0);
        due("? 1", x.shown(), "1 1 1\n" + (1 + 984943658L) + "\n");
        due("LINK", x.h.told(6), 984943658);
        x = new House();
        x.h.set(0, 0);
        due("ORIGIN 0", x.run("? 1 ; ? 2000000000"), 0);
        due("ORIGIN 0", x.shown(), "0\n282475249\n");
        fails("? 0", DOMAIN);
        fails("? _1", DOMAIN);
        fails("? 3r2", DOMAIN);
        fails("? 'a'", DOMAIN);
        // "LINK stays as it became, also ahead of an event"
        x = new House();
        due("an event behind", x.run("? 5 5 0"), DOMAIN);
        due("LINK went on twice", x.h.told(6), 282475249);
        due("an event ahead", x.run("? 0 5"), DOMAIN);
        due("LINK stays", x.h.told(6), 282475249);
        due("nothing", x.run("? ''"), 0);
        due("LINK stays", x.h.told(6), 282475249);
        due("in BOXES", x.run("? 5 (5 5)"), 0);
        due("LINK", x.h.told(6), 1144108930);
        // "the first event ends it", in BOXES likewise
        for (String text : new String[] {"? (5 'a') 5", "? ((5 0) 5) 5", "? ((5 'a') 5) 5", "? (enc (5 1r2) 5) 5"}) {
            x = new House();
            due(text, x.run(text), DOMAIN);
            due(text + ": LINK went on once", x.h.told(6), 16807);
        }
        // 2000000000 and more: LINK is above n
        x.h.set(1, 2147483646);
        due("LINK modulo n", x.run("? 2000000000 ; ? 100"), 0);
        due("LINK modulo n", x.shown(), "147466841\n" + (1 + 1865008398L % 100) + "\n");
    }

    /** "if one has RANK 0 it stands beside each item of the other; else, if one has COUNT 1, likewise". */
    private static void besideExtents() {
        shows("1 + 2 ; rho 1 + 2 ; 1 + 2 3 ; 2 3 + 1 ; 1 + 2 2 rho 5 ; (2 2 rho 5) + 1", "3||3 4|3 4|[2 2]6 6 6 6|[2 2]6 6 6 6");
        shows("(, 1) + 2 3 ; 2 3 + , 1 ; (1 1 rho 1) + 2 3 ; 2 3 + 1 1 1 rho 1 ; (, 1) + 2 2 rho 5", "3 4|3 4|3 4|3 4|[2 2]6 6 6 6");
        shows("(, 10) - 1 2 ; 1 2 - , 10 ; (1 1 rho 10) - 1 2 ; 10 - 1 2 ; 1 2 - 10", "9 8|_9 _8|9 8|9 8|_9 _8");
        // "of two with COUNT 1 the right one, if its RANK is not above the left one's, else the left one, stands beside"
        shows("rho 1 + , 1 ; rho (, 1) + 1 ; rho (, 1) + , 1 ; rho (, 1) + 1 1 rho 1 ; rho (1 1 rho 1) + , 1", "1|1|1|1 1|1 1");
        shows("rho (1 1 1 rho 1) + 1 ; rho 1 + 1 1 1 rho 1 ; (, 5) - 1 1 rho 3 ; (1 1 rho 5) - , 3", "1 1 1|1 1 1|[1 1]2|[1 1]2");
        shows("rho 1 + '' ; rho '' + 1 ; rho (, 1) + '' ; rho '' + , 1 ; rho (1 1 rho 1) + '' ; rho 5 + 0 3 rho 1", "0|0|0|0|0|0 3");
        shows("1 2 + 3 4 ; (2 2 rho 1 2 3 4) + 2 2 rho 5 6 7 8 ; rho (0 2 rho 1) + 0 2 rho 1", "4 6|[2 2]6 8 10 12|0 2");
    }

    /** "else the same RANK (RANK) and extents (LENGTH)": ahead of every item. */
    private static void besideWrongExtents() {
        for (String f : BESIDE) {
            fails("1 2 " + f + " 1 2 3", LENGTH);
            fails("'ab' " + f + " 'abc'", LENGTH);
            fails("1 2 " + f + " 1 2 rho 1", RANK);
            fails("'ab' " + f + " 3 3 rho 'a'", RANK);
        }
        fails("(2 3 rho 1) + 3 2 rho 1", LENGTH);
        fails("(2 2 2 rho 1) + 2 2 3 rho 1", LENGTH);
        fails("(2 2 rho 1) + 2 2 2 rho 1", RANK);
        fails("'' + 1 2", LENGTH);
        fails("1 2 + ''", LENGTH);
        fails("'' + 0 2 rho 1", RANK);
        fails("(0 2 rho 1) + 0 3 rho 1", LENGTH);
        fails("(0 2 rho 1) + 2 0 rho 1", LENGTH);
    }

    /** "Of each two items, if one is a BOX, the value of the function of both OPENED, BOXED". */
    private static void besideBoxes() {
        shows("1 (2 3) + 10 ; 10 + 1 (2 3) ; 1 (2 3) + (10 20) 1 ; (1 2) (3 4) + 10 20", "11 (12 13)|11 (12 13)|(11 21) (3 4)|(11 12) (23 24)");
        shows("(enc 1 2) + 10 20 ; (enc 1 2) + enc 3 4 ; (enc enc 1 2) + 1 ; rho (enc 1 2) + 1", "(11 12) (21 22)|(4 6)|((2 3))|");
        shows("(1 (0 rho 5)) + 1 ; (1 (2 (3 4))) + (1 (2 (3 5))) ; 1 (2 3) = 1 (2 4) ; 1 (2 3) = 1 'ab'", "2 ()|2 (4 (6 9))|1 (1 0)|1 (0 0)");
        fails("1 (2 3) + 1 (1 2 3)", LENGTH);
        fails("1 (2 3) + 1 (2 2 rho 1)", RANK);
        fails("1 (2 'a') + 1", DOMAIN);
        fails("(1 2) 'a' + 1 2", DOMAIN);
    }

    /** "else: SIGNS are DOMAIN but for = /= ". */
    private static void signs() {
        for (String f : BESIDE) {
            if (f.equals("=") || f.equals("/=")) continue;
            fails("'a' " + f + " 1", DOMAIN);
            fails("1 " + f + " 'a'", DOMAIN);
            fails("'a' " + f + " 'a'", DOMAIN);
            fails("0 " + f + " 'a'", DOMAIN);
            fails("1 1 " + f + " 1 'a'", DOMAIN);
            fails("1 (1 'a') " + f + " 1", DOMAIN);
        }
        shows("'a' = 'a' ; 'a' = 'b' ; 'a' = 1 ; 97 = 'a' ; '1' = 1 ; 'a' /= 'a' ; 'a' /= 'b' ; 'a' /= 1 ; 1 /= 'a'", "1|0|0|0|0|0|1|1|1");
        shows("'abc' = 'b' ; 'ab' /= 1 'b' ; 1r2 = 2r4 ; 1r2 /= 1r3 ; 1r2 = 1", "0 1 0|1 0|1|1|0");
    }

    private static void sums() {
        shows("1 + 2 ; 1r2 + 1r3 ; 1 - 2 ; 1r2 - 1r3 ; 2 * 3 ; 2r3 * 3r2 ; 0 * _5 ; _2 * _3", "3|5r6|_1|1r6|6|1|0|6");
        shows("1999999999 + 1 ; _1999999999 - 1 ; 1000000000 * _2 ; 2000000000 - 2000000000", "2000000000|_2000000000|_2000000000|0");
        for (String text : new String[] {"2000000000 + 1", "_2000000000 - 1", "2000000000 - _1", "1000000001 * 2", "2000000000 * 2000000000",
            "1r2000000000 * 1r2", "1r65537 + 1r65539", "1r2000000000 - 1r1999999999", "2000000000 + 1r2", "_2000000000 * 2000000000"}) {
            fails(text, LIMIT);
        }
    }

    /** "left % right: by it, 0 by 0 is 1, else by 0 DOMAIN". */
    private static void quotients() {
        shows("6 % 3 ; 1 % 3 ; _1 % 3 ; 1 % _3 ; 0 % 5 ; 0 % 0 ; 0 % _5 ; 1r2 % 1r4 ; 2000000000 % 1r1", "2|1r3|_1r3|_1r3|0|1|0|2|2000000000");
        fails("1 % 0", DOMAIN);
        fails("_1r2 % 0", DOMAIN);
        fails("2000000000 % 1r2", LIMIT);
        fails("1r2000000000 % 2", LIMIT);
        shows("0 % 1 0 2 ; 2000000000 % 2000000000 ; 1r2000000000 % 1r2000000000", "0 1 0|1|1");
    }

    /** "left ^ right: right a WHOLE (DOMAIN), 1 for 0, for right below 0 1 by the power, 0 then DOMAIN". */
    private static void powers() {
        shows("2 ^ 0 ; 0 ^ 0 ; _5 ^ 0 ; 1r2 ^ 0 ; 0 ^ 1 ; 0 ^ 2000000000 ; 5 ^ 1 ; _5 ^ 1", "1|1|1|1|0|0|5|_5");
        shows("2 ^ 10 ; 2 ^ 30 ; _2 ^ 3 ; _2 ^ 30 ; 1r2 ^ 3 ; _1r2 ^ 3 ; 2r3 ^ 2", "1024|1073741824|_8|1073741824|1r8|_1r8|4r9");
        shows("2 ^ _1 ; 2 ^ _30 ; _2 ^ _3 ; 1r2 ^ _3 ; 2r3 ^ _2 ; _2r3 ^ _3", "1r2|1r1073741824|_1r8|8|9r4|_27r8");
        shows("1 ^ 2000000000 ; 1 ^ _2000000000 ; _1 ^ 3 ; _1 ^ 2 ; _1 ^ _3 ; _1 ^ 1999999999 ; _1 ^ 2000000000", "1|1|_1|1|_1|_1|1");
        shows("2000000000 ^ 1 ; 2000000000 ^ _1 ; 1r2000000000 ^ 1 ; 1r2000000000 ^ _1 ; _2000000000 ^ 1", "2000000000|1r2000000000|1r2000000000|2000000000|_2000000000");
        fails("0 ^ _1", DOMAIN);
        fails("0 ^ _2000000000", DOMAIN);
        fails("2 ^ 1r2", DOMAIN);
        fails("0 ^ 1r2", DOMAIN);
        fails("1 ^ 3r2", DOMAIN);
        for (String text : new String[] {"2 ^ 31", "_2 ^ 31", "2 ^ _31", "2 ^ 62", "2 ^ 63", "2 ^ 64", "2 ^ 65", "_2 ^ 63", "_2 ^ 64", "1r2 ^ 64",
            "1r2 ^ _64", "10 ^ 10", "2000000000 ^ 2", "2000000000 ^ 2000000000", "2 ^ _2000000000", "3r2 ^ 100", "1r2 ^ 2000000000", "65536 ^ 4"}) {
            fails(text, LIMIT);
        }
    }

    /** "left | right: right less left times FLOOR(right / left), right if left is 0". */
    private static void residues() {
        shows("3 | 7 ; 3 | _7 ; _3 | 7 ; _3 | _7 ; 3 | 6 ; 3 | 0 ; 0 | 5 ; 0 | _5 ; 0 | 0 ; _3 | 6", "1|2|_2|_1|0|0|5|_5|0|0");
        shows("1 | 7r2 ; 1 | _7r2 ; 1r2 | 7r3 ; 3 | 1r2 ; 0 | 1r2 ; 1r2000000000 | 1999999999r2000000000 ; _1 | 1r3", "1r2|1r2|1r3|1r2|1r2|0|_2r3");
        shows("2000000000 | _1 ; 1999999999 | 2000000000 ; _2000000000 | 1 ; 2000000000 | _2000000000", "1999999999|1|_1999999999|0");
        shows("65537r2 | 1r65539 ; 1r65537 | 1r65539", "1r65539|1r65539");
        fails("1r65537 | 2r65539", LIMIT);
    }

    /** "left ! right: both WHOLES 0 .. (DOMAIN): how many sets of left things right things have". */
    private static void choices() {
        shows("0 ! 0 ; 0 ! 5 ; 5 ! 5 ; 2 ! 5 ; 3 ! 5 ; 6 ! 5 ; 1 ! 0 ; 16 ! 32 ; 15 ! 33", "1|1|1|10|10|0|0|601080390|1037158320");
        shows("1 ! 2000000000 ; 1999999999 ! 2000000000 ; 2000000000 ! 2000000000 ; 2000000000 ! 1 ; 2 ! 63246", "2000000000|2000000000|1|0|1999996635");
        for (String text : new String[] {"_1 ! 2", "2 ! _1", "0 ! _1", "_1 ! _1", "1r2 ! 2", "1 ! 3r2", "5 ! _3"}) fails(text, DOMAIN);
        for (String text : new String[] {"17 ! 34", "2 ! 63247", "2 ! 2000000000", "100 ! 200", "1000000000 ! 2000000000", "17 ! 2000000000"}) {
            fails(text, LIMIT);
        }
    }

    private static void comparisons() {
        shows("1 < 2 ; 2 < 2 ; 3 < 2 ; 1 <= 2 ; 2 <= 2 ; 3 <= 2 ; 1 >= 2 ; 2 >= 2 ; 3 >= 2 ; 1 > 2 ; 2 > 2 ; 3 > 2", "1|0|0|1|1|0|0|1|1|0|0|1");
        shows("1 = 1 ; 1 = 2 ; 1 /= 1 ; 1 /= 2 ; 2 min 3 ; 3 min 2 ; 2 max 3 ; 3 max 2 ; _2 min 1r2 ; _2 max 1r2", "1|0|0|1|2|2|3|3|_2|1r2");
        shows("1999999999r2000000000 < 1999999998r1999999999 ; 1999999999r2000000000 > 1999999998r1999999999 ; _1r2 < _1r3", "0|1|1");
        shows("1999999999r2000000000 min 1999999998r1999999999 ; _2000000000 < 2000000000", "1999999998r1999999999|1");
    }

    /** "and or: of 0, 1 (DOMAIN)". */
    private static void truths() {
        shows("0 0 1 1 and 0 1 0 1 ; 0 0 1 1 or 0 1 0 1", "0 0 0 1|0 1 1 1");
        for (String f : new String[] {"and", "or"}) {
            for (String x : new String[] {"2", "_1", "1r2", "'a'"}) {
                fails("0 " + f + " " + x, DOMAIN);
                fails("1 " + f + " " + x, DOMAIN);
                fails(x + " " + f + " 0", DOMAIN);
                fails(x + " " + f + " 1", DOMAIN);
            }
        }
    }

    /** "gcd lcm: of WHOLES (DOMAIN), 0 or above, 0 gcd 0 is 0, lcm 0 if one is 0". */
    private static void divisors() {
        shows("12 gcd 18 ; 5 gcd 7 ; 0 gcd 0 ; 0 gcd 5 ; 5 gcd 0 ; _12 gcd 18 ; _12 gcd _18 ; 0 gcd _5 ; 2000000000 gcd 2000000000", "6|1|0|5|5|6|6|5|2000000000");
        shows("4 lcm 6 ; 0 lcm 0 ; 0 lcm 5 ; 5 lcm 0 ; _4 lcm 6 ; _4 lcm _6 ; 2000000000 lcm 1000000000 ; 2000000000 lcm 2000000000", "12|0|0|0|12|12|2000000000|2000000000");
        shows("1 lcm 5 ; 5 lcm 1 ; _1 lcm 5 ; 5 lcm _1 ; 1 lcm 1 ; _1 lcm _1 ; 2 lcm 3 ; 0 lcm _1 ; _1 gcd 5 ; 1 gcd 0 ; 0 gcd _1", "5|5|5|5|1|1|6|0|1|1|1");
        for (String f : new String[] {"gcd", "lcm"}) {
            fails("1r2 " + f + " 1", DOMAIN);
            fails("1 " + f + " 1r2", DOMAIN);
            fails("0 " + f + " 1r2", DOMAIN);
        }
        shows("44720 lcm 44721", "1999923120");
        fails("44721 lcm 44722", LIMIT);
        fails("2000000000 lcm 3", LIMIT);
        fails("2000000000 lcm 1999999999", LIMIT);
    }

    /** "Items are done in order, in BOXES likewise; the first event ends it". */
    private static void inOrder() {
        fails("% 1 0 'a' ; 1", DOMAIN);
        fails("1 1 + 2000000000 'a'", LIMIT);
        fails("1 1 + 'a' 2000000000", DOMAIN);
        fails("! 13 'a'", LIMIT);
        fails("! 'a' 13", DOMAIN);
        fails("1 (2 2000000000) 'a' + 1", LIMIT);
        fails("1 (2 'a') 2000000000 + 1", DOMAIN);
        fails("1 (2 3) 2000000000 + 1 (1 2 3) 1", LENGTH);
        fails("2000000000 (2 3) + 1 (1 2 3)", LIMIT);
        fails("1 (2 3) 'a' + 1 (2 2 rho 1) 1", RANK);
    }

    /** "LIMIT also when an item is done (a BOX: as a whole) with which the SIZE of what is made so far there passes 1000". */
    private static void sizesOnTheWay() {
        String four = "b := enc 249 rho 1 ; c := enc 250 rho 1 ; ";
        // four BOXES, SIZE 250 each: 1000 so far
        fails(four + "(b , b , 1 1 'a') + 1 1 , b , b , 5", DOMAIN);
        fails(four + "(b , b , 1 1 5) + 1 1 , b , b , 5", LIMIT);
        shows(four + "tally (b , b , 1 1) + 1 1 , b , b", "4");
        // 1001 so far: ahead of the DOMAIN of the next one
        fails(four + "(b , c , 1 1 'a') + 1 1 , b , b , 5", LIMIT);
        fails(four + "(b , b , 1 1 'a') + 1 1 , b , c , 5", LIMIT);
        // a BOX is looked at as a whole: what is within it comes first
        fails(four + "(b , c , 1 1) + 1 1 , b , enc (249 rho 1) , 'a'", DOMAIN);
        fails(four + "(b , c , 1 2000000000) + 1 1 , b , b", LIMIT);
        // within a BOX what is made so far there is its own
        fails(four + "(enc b , b , 1 1 'a') + enc 1 1 , b , b , 5", DOMAIN);
        fails(four + "(enc b , c , 1 1 'a') + enc 1 1 , b , b , 5", LIMIT);
        fails(four + "(enc b , b , 1 1) + enc 1 1 , b , b", LIMIT);
        shows("tally (999 rho 1) + 1 ; tally (1000 rho 1) + 1000 rho 2 ; tally 1 + 500 rho enc , 1", "999|1000|500");
        fails("1 2 + 500 rho enc , 1", LENGTH);
        fails("(enc 1 2) + 500 rho enc , 1", LIMIT);
        fails("(enc 1 2) + 400 rho 1", LIMIT);
        shows("tally (enc 1 2) + 333 rho 1", "333");
        fails("(enc 1 2) + 334 rho 1", LIMIT);
    }

    /** "(What is on the way to a NUMBER is exact, however great.)" */
    private static void exactOnTheWay() {
        shows("1999999999r2000000000 + 1r2000000000", "1");
        fails("1999999999r2000000000 - 1999999998r1999999999", LIMIT);
        shows("2000000000r1999999999 * 1999999999r2000000000 ; 2000000000r1999999999 % 2000000000r1999999999", "1|1");
        shows("1999999999r2000000000 = 1999999998r1999999999 ; 1999999999 lcm 1 ; 2000000000 gcd 1999999999", "0|1999999999|1");
        shows("1r2000000000 | 1 ; 2000000000r1999999999 | 2000000000r1999999999 ; 16 ! 33", "0|0|1166803110");
    }

    /** "EMPTY: FILL 0." */
    private static void empties() {
        for (String f : ALONE) {
            empty("q := " + f + " ''", "0", "0");
            empty("q := " + f + " 0 3 rho 'a'", "0 3", "0");
            empty("q := " + f + " 0 rho enc 1 'a'", "0", "0");
        }
        for (String f : BESIDE) {
            empty("q := '' " + f + " ''", "0", "0");
            empty("q := 'a' " + f + " 2 0 rho 'a'", "2 0", "0");
            empty("q := (0 rho enc 1 'a') " + f + " 1", "0", "0");
            empty("q := (0 rho enc 1 'a') " + f + " , 'a'", "0", "0");
        }
        shows("enc first first - , enc '' ; enc first '' = , enc 'ab'", "0|0");
    }
}
