/** Promises 1 to 18, sentence by sentence: too small, too large, EMPTY, full, a wrap-around, a refused call. */
public final class FaceEdgesTest {
    private static final int LEAST = Integer.MIN_VALUE;
    private static final int GREATEST = Integer.MAX_VALUE;
    private static final int VALUE = House.VALUE;

    public static void main(String[] args) {
        aNewObject();
        twentyBytes();
        highestFirst();
        fourThousand();
        trimmed();
        runEmptiesTheTape();
        runEndsTheView();
        faults();
        events();
        at();
        steps();
        shown();
        eightThousand();
        byteAt();
        view();
        viewOfNone();
        viewOfOddBytes();
        into();
        intoNone();
        back();
        about();
        lanes();
        extent();
        kind();
        number();
        told();
        toldSizes();
        forget();
        forgetNone();
        setOrigin();
        setLink();
        setOther();
        objectsApart();
        House.end();
    }

    private static void due(String what, int got, int want) {
        House.due(what, got, want);
    }

    /** Promise 1: "No NAMES; ORIGIN 1, LINK 1; an empty TAPE, nothing SHOWN, no VIEW." */
    private static void aNewObject() {
        due("NONE", ArrayHouse.NONE, -1);
        ArrayHouse h = new ArrayHouse();
        int[] told = {0, 0, 0, 0, 0, 1, 1, 0};
        for (int i = 0; i < told.length; i++) due("told(" + i + ")", h.told(i), told[i]);
        due("at", h.at(), -1);
        due("steps", h.steps(), 0);
        due("shown", h.shown(), 0);
        due("byteAt(0)", h.byteAt(0), -1);
        for (int i = 0; i <= 5; i++) due("about(" + i + ")", h.about(i), -1);
        due("extent(0)", h.extent(0), -1);
        due("kind(0)", h.kind(0), -1);
        due("kind(-1)", h.kind(-1), -1);
        due("number(0)", h.number(0, false), 0);
        due("number(-1)", h.number(-1, true), 0);
        due("into(0)", h.into(0), -1);
        due("back", h.back(), -1);
        due("view", h.view(), -1);
        due("forget", h.forget(), -1);
        due("trim(0)", h.trim(0), 0);
        due("trim(1)", h.trim(1), -1);
        due("run", h.run(), 0);
    }

    /** Promise 2: "Twenty bytes come behind THE TAPE ..: how many it has." */
    private static void twentyBytes() {
        ArrayHouse h = new ArrayHouse();
        due("feed", h.feed(0x31323334, 0x35363738, 0x39303132, 0x33343536, 0x37383930), 20);
        due("feed", h.feed(0, 0, 0, 0, 0), 40);
        due("tape", h.told(7), 40);
        due("trim", h.trim(9), 9);
        due("run", h.run(), 0);
        due("shown", h.shown(), 10);
        for (int i = 0; i < 9; i++) due("byte", h.byteAt(i), '1' + i);
        due("feed behind", h.feed(0x31312020, 0, 0, 0, 0), 20);
        due("trim", h.trim(1), 1);
        due("feed behind", h.feed(0x32200000, 0, 0, 0, 0), 21);
        due("trim", h.trim(2), 2);
        due("run", h.run(), 0);
        due("shown", h.shown(), 3);
        due("byte", h.byteAt(0), '1');
        due("byte", h.byteAt(1), '2');
    }

    /** "of each number the highest first": a number below 0 begins with a byte above 127. */
    private static void highestFirst() {
        ArrayHouse h = new ArrayHouse();
        h.feed(0x27616263, 0x64656667, 0x68696A6B, 0x6C6D6E6F, 0x70717227);
        due("run", h.run(), 0);
        due("shown", h.shown(), 19);
        for (int i = 0; i < 18; i++) due("byte", h.byteAt(i), 'a' + i);
        int[] odd = {-1, 0x80000000, 0x00FF0000, 0x7F000000, 0x20208020};
        int[] places = {0, 0, 0, 0, 2};
        for (int i = 0; i < odd.length; i++) {
            h.feed(odd[i], 0, 0, 0, 0);
            h.trim(4);
            due("a FAULT of " + odd[i], h.run(), -10 - places[i]);
        }
    }

    /** "NONE: it would have more than 4000." */
    private static void fourThousand() {
        ArrayHouse h = new ArrayHouse();
        for (int i = 1; i <= 200; i++) due("feed", h.feed(0x20202020, 0x20202020, 0x20202020, 0x20202020, 0x20202035), 20 * i);
        due("full", h.feed(0, 0, 0, 0, 0), -1);
        due("it stays", h.told(7), 4000);
        due("trim(3981)", h.trim(3981), 3981);
        due("19 are too few", h.feed(0, 0, 0, 0, 0), -1);
        due("it stays", h.told(7), 3981);
        due("trim(3980)", h.trim(3980), 3980);
        due("20 just fit", h.feed(0x20202020, 0x20202020, 0x20202020, 0x20202020, 0x20202036), 4000);
        due("run", h.run(), 0);
        due("all of them were there", h.steps(), 1 + 200 + 200);
        due("the last one", h.byteAt(398), '6');
        due("empty", h.told(7), 0);
        due("feed again", h.feed(0, 0, 0, 0, 0), 20);
    }

    /** Promise 3: "THE TAPE keeps its first n bytes: n. NONE: n is below 0, or above what it has." */
    private static void trimmed() {
        ArrayHouse h = new ArrayHouse();
        h.feed(0x31323334, 0, 0, 0, 0);
        for (int n : new int[] {-1, 21, 4000, LEAST, GREATEST}) {
            due("trim(" + n + ")", h.trim(n), -1);
            due("it stays", h.told(7), 20);
        }
        due("trim(20)", h.trim(20), 20);
        due("trim(4)", h.trim(4), 4);
        due("what is gone is gone", h.trim(5), -1);
        due("trim(4)", h.trim(4), 4);
        due("trim(3)", h.trim(3), 3);
        due("run", h.run(), 0);
        due("shown", h.shown(), 4);
        h.feed(0, 0, 0, 0, 0);
        due("trim(0)", h.trim(0), 0);
        due("empty", h.told(7), 0);
        due("trim(1)", h.trim(1), -1);
        due("run of nothing", h.run(), 0);
    }

    /** Promise 4: "THE TAPE (which is empty then) is a text; nothing is SHOWN". */
    private static void runEmptiesTheTape() {
        House x = new House();
        x.tape("x := 5 ; x");
        due("tape", x.h.told(7), 10);
        due("run", x.h.run(), 0);
        due("tape", x.h.told(7), 0);
        due("shown", x.h.shown(), 2);
        due("run of nothing", x.h.run(), 0);
        due("nothing is SHOWN", x.h.shown(), 0);
        due("byteAt", x.h.byteAt(0), -1);
        due("a FAULT", x.run("x ; )"), -14);
        due("tape", x.h.told(7), 0);
        due("nothing is SHOWN", x.h.shown(), 0);
        due("an EVENT", x.run("x ; nope"), VALUE);
        due("tape", x.h.told(7), 0);
        House.due("what was SHOWN ahead of it stays", x.shown(), "5\n");
        due("a FAULT behind", x.run("$"), -10);
        due("nothing is SHOWN", x.h.shown(), 0);
        due("what NAMES mean stays", x.run("x"), 0);
        House.due("shown", x.shown(), "5\n");
    }

    /** "there is no VIEW any more": behind a text, a FAULT, an EVENT, nothing. */
    private static void runEndsTheView() {
        for (String text : new String[] {"1", "$", "nope", "", ";", "# x"}) {
            House x = new House();
            x.run("x := (1 2) 3");
            due("view", x.view("x"), 1);
            due("into", x.h.into(0), 1);
            x.run(text);
            for (int i = 0; i <= 5; i++) due("about(" + i + ") behind " + text, x.h.about(i), -1);
            due("back", x.h.back(), -1);
            due("into", x.h.into(0), -1);
            due("kind", x.h.kind(-1), -1);
            due("view again", x.view("x"), 1);
        }
    }

    /** "-10 less the place of its FAULT (nothing is done then)". */
    private static void faults() {
        House x = new House();
        due("at the first byte", x.run("$"), -10);
        due("at the last one", x.run(House.many(" ", 3999) + "$"), -4009);
        due("nothing is done", x.run("x := 1 ; 2 ; 3 )"), -25);
        due("NAMES", x.h.told(0), 0);
        due("shown", x.h.shown(), 0);
        due("at", x.h.at(), -1);
        due("steps", x.h.steps(), 0);
        due("LINK", x.run("? 10 ; ("), -17);
        due("LINK", x.h.told(6), 1);
    }

    /** "0, or the EVENT that ended them". */
    private static void events() {
        String[] texts = {"1", "1 +", "nope", "1 2 + 1 2 rho 1", "1 2 + 1 2 3", "1 % 0", "(1 2)[3]", "1001 rho 1",
            "({right} pow 2000000000) 0"};
        for (int event = 0; event < texts.length; event++) {
            House x = new House();
            due(texts[event], x.run("7 ; " + texts[event] + " ; x := 8 ; 9"), event);
            due("at", x.h.at(), event == 0 ? -1 : 1);
            due("what stands behind is done", x.h.told(0), event == 0 ? 1 : 0);
            House.due("shown", x.shown(), event == 0 ? "7\n1\n9\n" : "7\n");
        }
    }

    /** Promise 5: "The number (from 0 on, EMPTY ones too) of the STATEMENT .. in which its EVENT came". */
    private static void at() {
        House x = new House();
        due("ahead of any", x.h.at(), -1);
        String[] texts = {"nope", ";nope", ";;\n;nope", "1\n2;nope", "1;{1;2;nope}0", "{1;2;3}0;nope", "1;exe '1;2;nope'", "(1 2)[{1;2}0;nope]"};
        int[] places = {0, 1, 4, 2, -1, 1, 1, 0};
        for (int i = 0; i < texts.length; i++) {
            x.run(texts[i]);
            due(texts[i], x.h.at(), places[i]);
        }
        x.run("1;{x:=1;nope}0;2");
        due("within a CALL", x.h.at(), 1);
        x.run("1;2");
        due("without one", x.h.at(), -1);
        x.run("nope");
        x.run("$");
        due("with a FAULT", x.h.at(), -1);
        x.run("nope");
        x.run("");
        due("EMPTY", x.h.at(), -1);
        x.run("f := {nope}");
        x.run("1;2;f 0");
        due("in a function of an earlier text", x.h.at(), 2);
        x.run(House.many(";", 3990) + "nope");
        due("the last of many", x.h.at(), 3990);
        x.run("1;+ pow 13330 1;1;2");
        due("STEPS", x.h.at(), 2);
    }

    /** Promise 6: "How many STEPS the latest run() spent (0 with a FAULT, and ahead of any)." */
    private static void steps() {
        House x = new House();
        due("ahead of any", x.h.steps(), 0);
        x.run("1 + 2");
        due("1 + 2", x.h.steps(), 8);
        due("again", x.h.steps(), 8);
        x.view("x");
        due("behind another call", x.h.steps(), 8);
        x.run("$");
        due("with a FAULT", x.h.steps(), 0);
        x.run("1 ; nope");
        due("with an EVENT", x.h.steps(), 4);
        x.run("");
        due("EMPTY", x.h.steps(), 0);
        x.run("+ pow 13330 1 ; 1");
        due("all", x.h.steps(), 40000);
        x.run("+ pow 13330 1 ; 1 ; 1");
        due("all, and an EVENT", x.h.steps(), 40000);
    }

    /** Promise 7: "of each value that was, in order, its text (fmt, however long it is) and a byte 10". */
    private static void shown() {
        House x = new House();
        x.run("1 ; 'ab' ; '' ; x := 5 ; 1 (2 'cd') ; 2 2 rho 1 ; 0 3 rho 1 ; f := + ; _1r2 ; enc 'x' 1");
        House.due("shown", x.shown(), "1\nab\n\n1 (2 (cd))\n[2 2]1 1 1 1\n[0 3]\n_1r2\n(x 1)\n");
        due("bytes", x.h.shown(), x.shown().length());
        x.run("1000 rho 1");
        due("longer than fmt can be", x.h.shown(), 2000);
        x.run("x := 5");
        due("nothing", x.h.shown(), 0);
    }

    /** "what comes behind the 8000th is left out". */
    private static void eightThousand() {
        House x = new House();
        x.run("y := 999 rho 'a' ; y ; y ; y ; y ; y ; y ; y ; y");
        due("just 8000", x.h.shown(), 8000);
        due("the last one", x.h.byteAt(7999), 10);
        x.run("y ; y ; y ; y ; y ; y ; y ; 998 take y ; 'b'");
        due("8000 of 8001", x.h.shown(), 8000);
        due("the last one", x.h.byteAt(7999), 'b');
        due("beyond", x.h.byteAt(8000), -1);
        x.run("y ; y ; y ; y ; y ; y ; y ; 998 take y");
        due("7999", x.h.shown(), 7999);
        due("beyond", x.h.byteAt(7999), -1);
        due("no EVENT", x.run("z := 1000 rho 1r2000000000 ; z ; z"), 0);
        due("8000", x.h.shown(), 8000);
        due("the first", x.h.byteAt(0), '1');
        due("the next run begins anew", x.run("'c'"), 0);
        due("shown", x.h.shown(), 2);
        due("byte", x.h.byteAt(0), 'c');
        due("an EVENT behind it", x.run("z ; z ; nope"), VALUE);
        due("8000", x.h.shown(), 8000);
    }

    /** Promise 8: "Byte i of these; NONE." */
    private static void byteAt() {
        House x = new House();
        x.run("'~ a' ; 1");
        String want = "~ a\n1\n";
        for (int i = 0; i < want.length(); i++) due("byte", x.h.byteAt(i), want.charAt(i));
        for (int i : new int[] {-1, 6, 7, 8000, LEAST, GREATEST}) due("byteAt(" + i + ")", x.h.byteAt(i), -1);
    }

    /** Promise 9: "THE TAPE (which is empty then) is a NAME of the HOUSE that means a value, no blanks with it". */
    private static void view() {
        House x = new House();
        x.run("x := 2 3 rho 1 ; s := 5 ; v := '' ; h := 1 1 1 1 1 1 rho 1 ; abcdefgh := 7 ; a1 := , 8 ; f := + ; b := enc 1 2");
        due("x", x.view("x"), 2);
        due("s", x.view("s"), 0);
        due("v", x.view("v"), 1);
        due("h", x.view("h"), 6);
        due("b", x.view("b"), 0);
        due("a1", x.view("a1"), 1);
        due("abcdefgh", x.view("abcdefgh"), 0);
        due("its value", x.h.number(0, false), 7);
        due("tape", x.h.told(7), 0);
        due("f", x.view("f"), -2);
        due("tape", x.h.told(7), 0);
        due("no VIEW then", x.h.about(0), -1);
        x.run("f := 3 ; x := -");
        due("it means a value now", x.view("f"), 0);
        due("it means a function now", x.view("x"), -2);
    }

    /** "NONE: it is none (there is no VIEW then)". */
    private static void viewOfNone() {
        for (String name : new String[] {"", "y", " x", "x ", "x x", "X", "1", "1x", "xx", "abcdefg", "abcdefghi", "abcdefg1", "x\n", "x;", "(x)",
            "loc", "rho", "left", "right", "self", "rank", "'x'", "_x", "bcdefgh", House.many("x", 100), House.many("x", 4000)}) {
            House x = new House();
            x.run("x := (1 2) 3 ; abcdefgh := 5 ; {loc := 1 ; 2} 0");
            due("view", x.view("x"), 1);
            x.h.into(0);
            due("view " + name, x.view(name), -1);
            due("tape", x.h.told(7), 0);
            due("no VIEW", x.h.about(0), -1);
            due("no back", x.h.back(), -1);
        }
    }

    private static void viewOfOddBytes() {
        House x = new House();
        x.run("x := 1 ; xy := 2 ; abcd := 3 ; abcdefgh := 4");
        for (String name : new String[] {"x\0", "x\0\0\0", "\0x", "x\0y", "xy\0", "abcd\0", "abcd\0\0\0\0", "abcdefgh\0", "x\377", "\370", "\0", "x\200"}) {
            due("view of odd bytes", x.view(name), -1);
            due("forget of odd bytes", x.forget(name), -1);
        }
        due("NAMES", x.h.told(0), 4);
        x.tape("xyz");
        x.h.trim(2);
        due("a trimmed NAME", x.h.view(), 0);
        due("its value", x.h.number(0, false), 2);
    }

    /** Promise 10: "The VIEW is what is in its item i (from 0 on): its RANK." */
    private static void into() {
        House x = new House();
        x.run("x := (1 2) 'a' (2 2 rho 3) (enc 4 5) ''");
        x.view("x");
        int[] ranks = {1, -1, 2, 0, 1};
        for (int i = 0; i < ranks.length; i++) {
            due("into(" + i + ")", x.h.into(i), ranks[i]);
            if (ranks[i] < 0) continue;
            due("about 5", x.h.about(5), 1);
            due("back", x.h.back(), 1);
        }
        x.run("d := enc pow 7 , 9");
        x.view("d");
        for (int i = 1; i <= 7; i++) {
            due("into", x.h.into(0), i < 7 ? 0 : 1);
            due("how often", x.h.about(5), i);
        }
        due("the innermost", x.h.number(0, false), 9);
        due("no BOX", x.h.into(0), -1);
        due("it stays", x.h.about(5), 7);
    }

    /** "NONE: no VIEW, no such item, no BOX (it stays)." */
    private static void intoNone() {
        House x = new House();
        due("no VIEW", x.h.into(0), -1);
        x.run("x := (1 2) 3 'a' ; e := 0 rho enc 1 2 ; f := +");
        x.view("x");
        for (int i : new int[] {1, 2, 3, -1, LEAST, GREATEST}) {
            due("into(" + i + ")", x.h.into(i), -1);
            due("it stays", x.h.about(1), 3);
            due("it stays", x.h.about(5), 0);
        }
        x.view("e");
        for (int i : new int[] {0, -1, 1}) due("into an EMPTY one's FILL", x.h.into(i), -1);
        due("it stays", x.h.about(1), 0);
        x.view("f");
        due("no VIEW", x.h.into(0), -1);
    }

    /** Promise 11: "The VIEW is the one from which into() led to it: its RANK. NONE: none led to it, or there is none." */
    private static void back() {
        House x = new House();
        due("no VIEW", x.h.back(), -1);
        x.run("x := (1 (2 3)) (2 2 rho 4 (5 6)) ; y := 7");
        due("view", x.view("x"), 1);
        due("none led to it", x.h.back(), -1);
        due("it stays", x.h.about(1), 2);
        due("into", x.h.into(1), 2);
        due("into", x.h.into(1), 1);
        due("back", x.h.back(), 2);
        due("back", x.h.back(), 1);
        due("none led to it", x.h.back(), -1);
        due("into", x.h.into(0), 1);
        due("into", x.h.into(1), 1);
        due("item", x.h.number(0, false), 2);
        due("back", x.h.back(), 1);
        due("item", x.h.number(0, false), 1);
        due("back", x.h.back(), 1);
        x.h.into(0);
        x.view("y");
        due("a new VIEW", x.h.back(), -1);
        due("how often", x.h.about(5), 0);
        x.view("x");
        x.h.into(0);
        x.view("x");
        due("the same one anew", x.h.back(), -1);
    }

    /** Promise 12: RANK, COUNT, SIZE, DEPTH, LANE, how often into() led to it. "NONE: no VIEW, or another what." */
    private static void about() {
        House x = new House();
        x.run("x := 2 2 rho 1 (2 (3 4)) ; e := 0 3 rho enc 1 2");
        for (int what : new int[] {0, 1, 2, 3, 4, 5, -1, 6}) due("no VIEW", x.h.about(what), -1);
        x.view("x");
        int[] want = {2, 4, 4 + 2 * 4, 3, 8, 0};
        for (int i = 0; i < want.length; i++) due("about(" + i + ")", x.h.about(i), want[i]);
        for (int what : new int[] {-1, 6, 7, LEAST, GREATEST}) due("another what", x.h.about(what), -1);
        x.h.into(1);
        int[] within = {1, 2, 4, 2, 8, 1};
        for (int i = 0; i < within.length; i++) due("about(" + i + ")", x.h.about(i), within[i]);
        x.h.into(1);
        int[] innermost = {1, 2, 2, 1, 2, 2};
        for (int i = 0; i < innermost.length; i++) due("about(" + i + ")", x.h.about(i), innermost[i]);
        x.view("e");
        int[] empty = {2, 0, 3, 2, 8, 0};
        for (int i = 0; i < empty.length; i++) due("about(" + i + ")", x.h.about(i), empty[i]);
    }

    private static void lane(String value, int want) {
        House x = new House();
        x.run("x := " + value);
        x.view("x");
        due("LANE of " + value, x.h.about(4), want);
    }

    /** "the least in which all its items lie (of an EMPTY one its FILL)". */
    private static void lanes() {
        String[][] rows = {{}, {"0", "1", "0 1 1", "2 2 rho 0", "0 rho 5", "0 3 rho 1r2"}, {"2", "_1", "0 1 2", "127", "_128", "127 _128", "0 _1"},
            {"128", "_129", "32767", "_32768", "1 128", "32767 _32768 0"}, {"32768", "_32769", "2000000000", "_2000000000", "0 32768"},
            {"1r2", "_1r2", "0 1r2", "2000000000 1r2000000000", "32768 3r2"}, {"'a'", "'ab'", "' '", "''", "0 2 rho 'a'", "0 rho 'a' 1"},
            {"'a' 1", "'a' 0", "1r2 'a'", "'ab' , 2000000000", "1 'a' 1r2"}, {"enc 1 2", "1 (2 3)", "'a' (1 2)", "1r2 'a' ''", "0 rho enc 1 2", "enc ''"}};
        for (int lane = 1; lane < rows.length; lane++) {
            for (String value : rows[lane]) lane(value, lane);
        }
    }

    /** Promise 13: "Extent k (from 0 on) of the VIEW. NONE." */
    private static void extent() {
        House x = new House();
        due("no VIEW", x.h.extent(0), -1);
        x.run("x := 2 3 4 rho 1 ; s := 5 ; e := 0 7 rho 1 ; h := 1 2 1 2 1 3 rho 1 ; m := 1000 0 rho 1 ; b := enc 1 2 3");
        x.view("x");
        for (int k = 0; k < 3; k++) due("extent", x.h.extent(k), 2 + k);
        for (int k : new int[] {-1, 3, 4, 6, 7, LEAST, GREATEST}) due("extent(" + k + ")", x.h.extent(k), -1);
        x.view("s");
        due("RANK 0", x.h.extent(0), -1);
        x.view("e");
        due("EMPTY", x.h.extent(0), 0);
        due("EMPTY", x.h.extent(1), 7);
        due("EMPTY", x.h.extent(2), -1);
        x.view("h");
        due("the last of six", x.h.extent(5), 3);
        due("beyond six", x.h.extent(6), -1);
        x.view("m");
        due("the greatest", x.h.extent(0), 1000);
        x.view("b");
        due("RANK 0", x.h.extent(0), -1);
        x.h.into(0);
        due("within", x.h.extent(0), 3);
    }

    /** Promise 14: "0 a NUMBER, 1 a SIGN, 2 a BOX; i = -1: its FILL. NONE: no VIEW, no such item." */
    private static void kind() {
        House x = new House();
        for (int i : new int[] {-1, 0, 1}) due("no VIEW", x.h.kind(i), -1);
        x.run("x := 1r2 'a' (1 2) ; s := 'a' 1 ; b := (1 2) 1 ; c := '' ; n := 0 2 rho 1 ; e := 0 rho enc 'ab' ; r := 'q'");
        x.view("x");
        for (int i = 0; i < 3; i++) due("kind", x.h.kind(i), i);
        due("its FILL", x.h.kind(-1), 0);
        for (int i : new int[] {3, -2, LEAST, GREATEST}) due("kind(" + i + ")", x.h.kind(i), -1);
        String[] names = {"s", "b", "c", "n", "e", "r"};
        int[] fills = {1, 2, 1, 0, 2, 1};
        int[] first = {1, 2, -1, -1, -1, 1};
        for (int i = 0; i < names.length; i++) {
            x.view(names[i]);
            due("FILL of " + names[i], x.h.kind(-1), fills[i]);
            due("first of " + names[i], x.h.kind(0), first[i]);
        }
    }

    /** Promise 15: "n of a NUMBER n / d (below = false), d (below = true); the byte of a SIGN; 0 of a BOX. 0: no VIEW, no such item." */
    private static void number() {
        House x = new House();
        due("no VIEW", x.h.number(0, true), 0);
        due("no VIEW", x.h.number(-1, true), 0);
        x.run("x := _3r4 'a' (1 2) 0 2000000000 _2000000000 1r2000000000 ' ' ; s := 'a' 1 ; b := (1 2) 1 ; c := '' ; n := 0 2 rho 1r2 ; e := 0 rho enc 'ab'");
        x.view("x");
        int[] above = {-3, 97, 0, 0, 2000000000, -2000000000, 1, 32};
        int[] below = {4, 97, 0, 1, 1, 1, 2000000000, 32};
        for (int i = 0; i < above.length; i++) {
            due("n of " + i, x.h.number(i, false), above[i]);
            due("d of " + i, x.h.number(i, true), below[i]);
        }
        for (int i : new int[] {8, -2, LEAST, GREATEST}) {
            due("no such item", x.h.number(i, false), 0);
            due("no such item", x.h.number(i, true), 0);
        }
        String[] names = {"x", "s", "b", "c", "n", "e"};
        int[] fillAbove = {0, 32, 0, 32, 0, 0};
        int[] fillBelow = {1, 32, 0, 32, 1, 0};
        for (int i = 0; i < names.length; i++) {
            x.view(names[i]);
            due("FILL of " + names[i], x.h.number(-1, false), fillAbove[i]);
            due("FILL of " + names[i], x.h.number(-1, true), fillBelow[i]);
        }
        due("no item of an EMPTY one", x.h.number(0, true), 0);
    }

    /** Promise 16: "NAMES of the HOUSE that mean something, values, functions, bytes .., SIZES .., ORIGIN, LINK, THE TAPE". */
    private static void told() {
        House x = new House();
        x.run("x := 1 2 3 ; y := 'a' ; f := +/ ; g := { right } ; {z := 1 ; h := + ; 2} 0 ; ? 10");
        int[] want = {4, 2, 2, 2 + 9, 4, 1, 16807, 0};
        for (int i = 0; i < want.length; i++) due("told(" + i + ")", x.h.told(i), want[i]);
        for (int what : new int[] {-1, 8, 9, LEAST, GREATEST}) due("told(" + what + ")", x.h.told(what), -1);
        x.tape("abc");
        due("tape", x.h.told(7), 3);
        x.h.feed(0, 0, 0, 0, 0);
        due("tape", x.h.told(7), 23);
        x.h.trim(0);
        x.run("x := - ; f := 5 6 ; nope");
        int[] then = {4, 2, 2, 1 + 9, 3, 1, 16807, 0};
        for (int i = 0; i < then.length; i++) due("told(" + i + ")", x.h.told(i), then[i]);
    }

    private static void toldSizes() {
        House x = new House();
        x.run("a := '' ; b := 0 rho enc 1 2 3 ; c := 1 (2 3) ; d := 1000 rho 1 ; e := enc 5 6 ; f := 0 3 rho 1");
        due("SIZES", x.h.told(4), 0 + 4 + 4 + 1000 + 3 + 0);
        x.run("g := d ; h := g");
        due("each counts, also the same value", x.h.told(4), 1011 + 2000);
        x.run("d[1] := 1 ; d := 5");
        due("what a NAME meant counts no more", x.h.told(4), 2012);
        for (int i = 0; i < 60; i++) x.run("n" + i + " := 1000 rho 1");
        due("NAMES", x.h.told(0), 60);
        due("SIZES", x.h.told(4), 2012 + 52 * 1000);
    }

    /** Promise 17: "it means nothing any more: 1 it meant a value, 2 a function; there is no VIEW." */
    private static void forget() {
        House x = new House();
        x.run("x := 1 2 ; y := (1 2) 3 ; f := +/ ; g := f");
        x.view("y");
        x.h.into(0);
        due("forget x", x.forget("x"), 1);
        due("there is no VIEW", x.h.about(0), -1);
        due("there is no VIEW", x.h.back(), -1);
        due("tape", x.h.told(7), 0);
        due("NAMES", x.h.told(0), 3);
        due("values", x.h.told(1), 1);
        due("SIZES", x.h.told(4), 4);
        due("it means nothing", x.run("x"), VALUE);
        due("it means nothing", x.view("x"), -1);
        due("forget it again", x.forget("x"), -1);
        due("forget f", x.forget("f"), 2);
        due("bytes", x.h.told(3), 1);
        due("functions", x.h.told(2), 1);
        due("it means nothing", x.run("g 1 2"), VALUE);
        due("forget y", x.forget("y"), 1);
        due("forget g", x.forget("g"), 2);
        for (int i = 0; i <= 4; i++) due("told(" + i + ")", x.h.told(i), 0);
        due("anew", x.run("x := 7 ; f := - ; 9 f x"), 0);
        House.due("shown", x.shown(), "2\n");
    }

    /** "NONE: it is none (the VIEW stays)." */
    private static void forgetNone() {
        House x = new House();
        x.run("x := (1 2) 3 ; abcdefgh := 5 ; {loc := 1 ; 2} 0");
        x.view("x");
        x.h.into(0);
        for (String name : new String[] {"", "y", " x", "x ", "X", "1", "xx", "abcdefg", "abcdefghi", "loc", "rho", "left", "x\n", "x\0", "(x)", House.many("x", 4000)}) {
            due("forget " + name, x.forget(name), -1);
            due("tape", x.h.told(7), 0);
            due("the VIEW stays", x.h.about(1), 2);
            due("the VIEW stays", x.h.about(5), 1);
        }
        due("back", x.h.back(), 1);
        due("NAMES", x.h.told(0), 2);
        due("what was SHOWN stays", x.h.shown(), 2);
    }

    /** Promise 18: "ORIGIN (what = 0: 0 or 1) .. becomes v: what it was. NONE: another what, or v." */
    private static void setOrigin() {
        House x = new House();
        due("as it is", x.h.set(0, 1), 1);
        for (int v : new int[] {-1, 2, LEAST, GREATEST}) {
            due("set(0, " + v + ")", x.h.set(0, v), -1);
            due("it stays", x.h.told(5), 1);
        }
        due("set(0, 0)", x.h.set(0, 0), 1);
        due("told", x.h.told(5), 0);
        due("set(0, 2)", x.h.set(0, 2), -1);
        due("it stays", x.h.told(5), 0);
        due("set(0, 0)", x.h.set(0, 0), 0);
        x.run("iota 2");
        House.due("ORIGIN 0", x.shown(), "0 1\n");
        due("set(0, 1)", x.h.set(0, 1), 0);
        x.run("iota 2");
        House.due("ORIGIN 1", x.shown(), "1 2\n");
        due("LINK is another", x.h.told(6), 1);
    }

    /** "or LINK (1: 1 .. 2147483646)". */
    private static void setLink() {
        House x = new House();
        for (int v : new int[] {0, -1, GREATEST, LEAST}) {
            due("set(1, " + v + ")", x.h.set(1, v), -1);
            due("it stays", x.h.told(6), 1);
        }
        due("the greatest", x.h.set(1, 2147483646), 1);
        due("told", x.h.told(6), 2147483646);
        due("the least", x.h.set(1, 1), 2147483646);
        due("told", x.h.told(6), 1);
        due("another", x.h.set(1, 1407677000), 1);
        x.run("? 2000000000");
        due("LINK wraps around to 1", x.h.told(6), 1);
        House.due("shown", x.shown(), "2\n");
        due("ORIGIN is another", x.h.told(5), 1);
    }

    private static void setOther() {
        House x = new House();
        x.run("x := 5");
        x.view("x");
        for (int what : new int[] {-1, 2, 3, LEAST, GREATEST}) {
            due("set(" + what + ", 1)", x.h.set(what, 1), -1);
            due("set(" + what + ", 0)", x.h.set(what, 0), -1);
        }
        due("the VIEW stays", x.h.number(0, false), 5);
        due("set(0, 0)", x.h.set(0, 0), 1);
        due("the VIEW stays", x.h.number(0, false), 5);
    }

    /** What one object is told is nothing to another. */
    private static void objectsApart() {
        House x = new House();
        House y = new House();
        x.run("x := 1 ; f := + ; ? 10 ; x");
        x.h.set(0, 0);
        x.tape("abc");
        int[] told = {0, 0, 0, 0, 0, 1, 1, 0};
        for (int i = 0; i < told.length; i++) due("told(" + i + ") of the other", y.h.told(i), told[i]);
        due("shown", y.h.shown(), 0);
        due("x", y.run("x"), VALUE);
        due("x", y.view("x"), -1);
    }
}
