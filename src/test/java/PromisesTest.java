/** The promises 1 to 28 by hand: ordinary inputs, edges, wrong inputs and the order of refusals. */
public final class PromisesTest {
    private static final int UNKNOWN = -11;
    private static final int OUTSIDE = -12;
    private static final int STATE = -13;
    private static final int FULL = -14;
    private static final int NONE = -9;
    private static final long FAR = 4611686018427387904L;

    private static String part = "";
    private static int wrong = 0;
    private static int calls = 0;

    private static void due(String call, long want, long got) {
        calls++;
        if (got != want) {
            wrong++;
            System.out.println(part + ": " + call + " answered " + got + ", due is " + want);
        }
    }

    public static void main(String[] args) {
        newObject();
        moments();
        wish();
        gift();
        undo();
        tighten();
        link();
        feed();
        trim();
        readItems();
        readWrongPlaces();
        readRefusedItems();
        readAndTheNet();
        together();
        distance();
        strong();
        weak();
        spoiler();
        lively();
        notLively();
        rounds();
        edge();
        waits();
        waitsOverGifts();
        start();
        happen();
        goOn();
        idle();
        came();
        may();
        now();
        check();
        told();
        System.out.println(wrong == 0 ? calls + " answers are as due" : wrong + " answers are not as due");
        if (wrong != 0) {
            System.exit(1);
        }
    }

    private static TickPlans net(int moments) {
        TickPlans x = new TickPlans();
        x.moments(moments);
        return x;
    }

    private static void feedText(TickPlans x, String text) {
        int before = x.told(4);
        StringBuilder padded = new StringBuilder(text);
        while (padded.length() % 20 != 0) {
            padded.append(' ');
        }
        for (int i = 0; i < padded.length(); i += 20) {
            int[] n = new int[5];
            for (int j = 0; j < 20; j++) {
                n[j / 4] = n[j / 4] << 8 | (padded.charAt(i + j) & 255);
            }
            x.feed(n[0], n[1], n[2], n[3], n[4]);
        }
        x.trim(before + text.length());
    }

    private static int readText(TickPlans x, String text) {
        feedText(x, text);
        return x.read();
    }

    private static void dueRead(String text, int want) {
        due("read of [" + text + "]", want, readText(new TickPlans(), text));
    }

    /** A net of a GIFT 0 to 1 (2 to 5) and a WISH 1 to 2 (0 to 2): MOMENT 2 waits for the GIFT. */
    private static TickPlans waitingNet() {
        TickPlans x = net(3);
        x.gift(0, 1, 2, 5);
        x.wish(1, 2, 0, 2);
        return x;
    }

    private static void newObject() {
        part = "promise 1";
        TickPlans x = new TickPlans();
        for (int what = 0; what < 5; what++) {
            due("told " + what, 0, x.told(what));
        }
        due("undo", STATE, x.undo());
        due("trim(1)", OUTSIDE, x.trim(1));
        due("now", STATE, x.now());
        due("link", UNKNOWN, x.link(0, 0));
        due("together", 1, x.together());
        due("strong", 1, x.strong());
        due("weak", 1, x.weak());
        due("lively", 1, x.lively());
        due("rounds", 1, x.rounds());
        due("start", 1, x.start());
        due("check", 1, x.check());
        due("goOn", 0, x.goOn());
        due("idle", 7, x.idle(7));
        due("now", 8, x.now());
        TickPlans y = net(2);
        due("told of another object", 0, x.told(0));
        due("told", 2, y.told(0));
    }

    private static void moments() {
        part = "promise 2";
        TickPlans x = new TickPlans();
        for (int n : new int[] {0, -1, 17, Integer.MIN_VALUE, Integer.MAX_VALUE}) {
            due("moments " + n, OUTSIDE, x.moments(n));
        }
        due("moments 1", 1, x.moments(1));
        due("moments 9", 10, x.moments(9));
        due("moments 7", FULL, x.moments(7));
        due("told", 10, x.told(0));
        due("moments 17", OUTSIDE, x.moments(17));
        due("moments 6", 16, x.moments(6));
        due("moments 1", FULL, x.moments(1));
        due("moments 0", OUTSIDE, x.moments(0));
        due("moments 16", 16, new TickPlans().moments(16));
        x.start();
        due("moments 1 in a run", FULL, x.moments(1));
        due("now", 0, x.now());
        TickPlans y = net(1);
        y.start();
        y.moments(1);
        due("now behind a change", STATE, y.now());
    }

    private static void wish() {
        part = "promise 3";
        TickPlans x = net(3);
        due("no such beginning", UNKNOWN, x.wish(3, 0, 0, 0));
        due("no such end", UNKNOWN, x.wish(0, 3, 0, 0));
        due("below 0", UNKNOWN, x.wish(-1, 0, 0, 0));
        due("below 0", UNKNOWN, x.wish(0, -1, 0, 0));
        due("UNKNOWN ahead of STATE", UNKNOWN, x.wish(3, 3, 0, 0));
        due("UNKNOWN ahead of OUTSIDE", UNKNOWN, x.wish(0, 3, 1, 0));
        due("a is b", STATE, x.wish(1, 1, 0, 0));
        due("a is b, ahead of bounds", STATE, x.wish(1, 1, 1, 0));
        due("low above high", OUTSIDE, x.wish(0, 1, 1, 0));
        due("low too low", OUTSIDE, x.wish(0, 1, -100001, 0));
        due("high too high", OUTSIDE, x.wish(0, 1, 0, 100001));
        due("both too high", OUTSIDE, x.wish(0, 1, 100001, 100001));
        due("both too low", OUTSIDE, x.wish(0, 1, -100001, -100001));
        due("least and greatest", OUTSIDE, x.wish(0, 1, Integer.MIN_VALUE, Integer.MAX_VALUE));
        due("told", 0, x.told(1));
        due("first", 0, x.wish(0, 1, -100000, 100000));
        due("second", 1, x.wish(1, 0, -100000, -100000));
        due("again", 2, x.wish(1, 0, 100000, 100000));
        for (int i = 3; i < 60; i++) {
            due("wish " + i, i, x.wish(i % 3, (i + 1) % 3, 0, i));
        }
        due("full", FULL, x.wish(0, 1, 0, 0));
        due("OUTSIDE ahead of FULL", OUTSIDE, x.wish(0, 1, 1, 0));
        due("STATE ahead of FULL", STATE, x.wish(0, 0, 0, 0));
        due("UNKNOWN ahead of FULL", UNKNOWN, x.wish(0, 3, 0, 0));
        due("told", 60, x.told(1));
        due("told gifts", 0, x.told(2));
    }

    private static void gift() {
        part = "promise 4";
        TickPlans x = net(9);
        due("no such end", UNKNOWN, x.gift(0, 9, 1, 1));
        due("no such beginning", UNKNOWN, x.gift(-1, 0, 1, 1));
        due("UNKNOWN ahead", UNKNOWN, x.gift(9, 9, 0, 0));
        due("a is b", STATE, x.gift(0, 0, 1, 1));
        due("a is b, ahead of bounds", STATE, x.gift(0, 0, 0, 0));
        due("low is 0", OUTSIDE, x.gift(0, 1, 0, 1));
        due("low is below", OUTSIDE, x.gift(0, 1, -1, 1));
        due("low above high", OUTSIDE, x.gift(0, 1, 2, 1));
        due("high too high", OUTSIDE, x.gift(0, 1, 1, 100001));
        due("a wish", 0, x.wish(0, 1, 1, 1));
        due("a gift", 1, x.gift(0, 1, 1, 100000));
        due("its number as a gift", 0, x.link(1, 4));
        due("GIVEN", STATE, x.gift(2, 1, 1, 1));
        due("GIVEN, from the same", STATE, x.gift(0, 1, 1, 1));
        due("bounds ahead of GIVEN", OUTSIDE, x.gift(2, 1, 0, 1));
        due("round of two", STATE, x.gift(1, 0, 1, 1));
        due("bounds ahead of a round", OUTSIDE, x.gift(1, 0, 5, 1));
        due("behind a gift", 2, x.gift(1, 2, 100000, 100000));
        due("round of three", STATE, x.gift(2, 0, 1, 1));
        due("same beginning", 3, x.gift(1, 3, 1, 1));
        due("same beginning", 4, x.gift(1, 4, 1, 1));
        due("ahead of a gift", 5, x.gift(5, 0, 1, 1));
        due("round of four", STATE, x.gift(2, 5, 1, 1));
        due("sixth", 6, x.gift(6, 7, 1, 1));
        due("seventh", FULL, x.gift(7, 8, 1, 1));
        due("GIVEN ahead of FULL", STATE, x.gift(8, 7, 1, 1));
        due("round ahead of FULL", STATE, x.gift(7, 6, 1, 1));
        due("bounds ahead of FULL", OUTSIDE, x.gift(7, 8, 0, 1));
        due("a wish to a GIVEN one", 7, x.wish(8, 7, 0, 0));
        due("told links", 8, x.told(1));
        due("told gifts", 6, x.told(2));
        TickPlans y = net(3);
        for (int i = 0; i < 60; i++) {
            y.wish(0, 1, 0, 0);
        }
        due("links are full", FULL, y.gift(0, 1, 1, 1));
        due("told gifts", 0, y.told(2));
    }

    private static void undo() {
        part = "promise 5";
        TickPlans x = net(3);
        due("none", STATE, x.undo());
        x.gift(0, 1, 1, 2);
        x.wish(0, 2, 3, 4);
        x.gift(1, 2, 5, 6);
        due("a gift goes", 2, x.undo());
        due("gifts", 1, x.told(2));
        due("its end is free", 2, x.gift(0, 2, 1, 1));
        due("number as a gift", 1, x.link(2, 4));
        due("goes", 2, x.undo());
        due("a wish goes", 1, x.undo());
        due("gifts", 1, x.told(2));
        due("the rest", 0, x.link(0, 4));
        due("gone", UNKNOWN, x.link(1, 0));
        x.start();
        due("goes", 0, x.undo());
        due("no run", STATE, x.now());
        due("gifts", 0, x.told(2));
        due("moments", 3, x.told(0));
        x.start();
        due("none", STATE, x.undo());
        due("a refusal leaves the run", 0, x.now());
    }

    private static void tighten() {
        part = "promise 6";
        TickPlans x = waitingNet();
        due("no link", UNKNOWN, x.tighten(2, 0, 0));
        due("below 0", UNKNOWN, x.tighten(-1, 0, 0));
        due("UNKNOWN ahead", UNKNOWN, x.tighten(2, 1, 0));
        due("a gift at 0", OUTSIDE, x.tighten(0, 0, 5));
        due("low above high", OUTSIDE, x.tighten(0, 5, 4));
        due("too high", OUTSIDE, x.tighten(0, 1, 100001));
        due("too low", OUTSIDE, x.tighten(1, -100001, 4));
        due("low above high", OUTSIDE, x.tighten(1, 5, 4));
        due("low stays", 2, x.link(0, 2));
        due("a wish", 1, x.tighten(1, -100000, 100000));
        due("its low", -100000, x.link(1, 2));
        due("its high", 100000, x.link(1, 3));
        due("a gift, wider", 1, x.tighten(0, 1, 100000));
        due("its low", 1, x.link(0, 2));
        due("its high", 100000, x.link(0, 3));
        due("still a gift", 0, x.link(0, 4));
        TickPlans y = waitingNet();
        due("lively", 1, y.lively());
        y.start();
        y.tighten(1, 0, -1);
        due("a refusal leaves the run", 0, y.now());
        due("weak", 1, y.weak());
        due("tighten", 1, y.tighten(1, -1, -1));
        due("the run ends", STATE, y.now());
        due("not lively any more", 0, y.lively());
    }

    private static void link() {
        part = "promise 7";
        TickPlans x = net(4);
        x.wish(3, 1, -7, 9);
        x.gift(2, 0, 4, 6);
        int[][] want = {{3, 1, -7, 9, NONE}, {2, 0, 4, 6, 0}};
        for (int l = 0; l < 2; l++) {
            for (int what = 0; what < 5; what++) {
                due("link " + l + " " + what, want[l][what], x.link(l, what));
            }
        }
        due("what 5", OUTSIDE, x.link(0, 5));
        due("what -1", OUTSIDE, x.link(0, -1));
        due("no link", UNKNOWN, x.link(2, 0));
        due("below 0", UNKNOWN, x.link(-1, 0));
        due("UNKNOWN ahead", UNKNOWN, x.link(2, 5));
    }

    private static void feed() {
        part = "promise 8";
        TickPlans x = new TickPlans();
        for (int i = 1; i <= 50; i++) {
            due("feed " + i, 20 * i, x.feed(-1, 0, Integer.MIN_VALUE, Integer.MAX_VALUE, i));
        }
        due("feed 51", FULL, x.feed(0, 0, 0, 0, 0));
        due("told", 1000, x.told(4));
        due("trim", 981, x.trim(981));
        due("no room for twenty", FULL, x.feed(0, 0, 0, 0, 0));
        due("told", 981, x.told(4));
        due("trim", 980, x.trim(980));
        due("room for twenty", 1000, x.feed(0, 0, 0, 0, 0));
        TickPlans y = new TickPlans();
        // m 3;w 0 2 -7 12;     with the highest byte first
        due("feed", 20, y.feed(0x6d20333b, 0x77203020, 0x32202d37, 0x2031323b, 0x20202020));
        due("read", 1, y.read());
        due("low", -7, y.link(0, 2));
        due("high", 12, y.link(0, 3));
        TickPlans z = net(1);
        z.start();
        z.feed(1, 2, 3, 4, 5);
        due("the run stays", 0, z.now());
    }

    private static void trim() {
        part = "promise 9";
        TickPlans x = new TickPlans();
        due("empty", 0, x.trim(0));
        due("above", OUTSIDE, x.trim(1));
        due("below", OUTSIDE, x.trim(-1));
        x.feed(0, 0, 0, 0, 0);
        due("all", 20, x.trim(20));
        due("above", OUTSIDE, x.trim(21));
        due("least", OUTSIDE, x.trim(Integer.MIN_VALUE));
        due("told", 20, x.told(4));
        due("some", 3, x.trim(3));
        due("told", 3, x.told(4));
        due("above", OUTSIDE, x.trim(4));
        x.trim(0);
        feedText(x, "m 2;w 0 1 3 4;");
        x.trim(4);
        feedText(x, "w 1 0 5 6;");
        due("what came behind", 1, x.read());
        due("first bytes stay", 1, x.link(0, 0));
    }

    private static void readItems() {
        part = "promise 10, items";
        dueRead("", 0);
        dueRead("   \n \n", 0);
        dueRead("m1;", 0);
        dueRead("\n m \n 1 \n ; \n ", 0);
        dueRead("m2;w0 1-1 5;", 1);
        dueRead("m2;w0 1-1-1;", 1);
        dueRead("m2;g 0 1 1 1;", 1);
        dueRead("m 000002;w 0 000001 -00000 000000;", 1);
        dueRead("m2;w 0 1 -0 0;", 1);
        dueRead("m1;m1;w 0 1 0 0;m 1;w 1 2 0 0;", 2);
        dueRead("m16;", 0);
        TickPlans x = new TickPlans();
        due("read", 3, readText(x, "m 4; w 3 1 -7 9; g 2 0 4 100000; w 0 2 -100000 5;"));
        int[][] want = {{3, 1, -7, 9, NONE}, {2, 0, 4, 100000, 0}, {0, 2, -100000, 5, NONE}};
        for (int l = 0; l < 3; l++) {
            for (int what = 0; what < 5; what++) {
                due("link " + l + " " + what, want[l][what], x.link(l, what));
            }
        }
        StringBuilder most = new StringBuilder("m 2;");
        for (int i = 0; i < 60; i++) {
            most.append("w 0 1 0 1;");
        }
        dueRead(most.toString(), 60);
        dueRead(most + "w 0 1 0 1;", -20 - most.length() - 9);
        StringBuilder blanks = new StringBuilder();
        while (blanks.length() < 1000) {
            blanks.append(' ');
        }
        dueRead(blanks.toString(), 0);
        dueRead(blanks.substring(0, 999) + "m", -1020);
    }

    private static void readWrongPlaces() {
        part = "promise 10, tokens";
        dueRead("m", -21);
        dueRead("m  ", -23);
        dueRead("m 2", -23);
        dueRead("m 2 \n ", -26);
        dueRead("x", -20);
        dueRead("  x", -22);
        dueRead(";", -20);
        dueRead("2", -20);
        dueRead("-", -20);
        dueRead("M 2;", -20);
        dueRead("m;", -21);
        dueRead("m m;", -22);
        dueRead("m 2 3;", -24);
        dueRead("m 2 m;", -24);
        dueRead("m 2;;", -24);
        dueRead("m -;", -22);
        dueRead("m - 2;", -22);
        dueRead("m --2;", -22);
        dueRead("m -\n2;", -22);
        dueRead("m 2-;", -23);
        dueRead("m 0000002;", -22);
        dueRead("m -0000002;", -22);
        dueRead("m 2222222222222222222222;", -22);
        dueRead("m 2 3333333;", -24);
        dueRead("m +2;", -22);
        dueRead("m 2.;", -23);
        dueRead("m\t2;", -21);
        dueRead("m 2;\r", -24);
        dueRead("m 2;\0", -24);
        dueRead("m 2;\u00ff", -24);
        dueRead("m 2\u00b2;", -23);
        dueRead("m 2;w 0 1 0;", -31);
        dueRead("m 2;w 0 1 0 1 2;", -34);
        dueRead("m 2;w 0,1 0 1;", -27);
        dueRead("m 2;w", -25);
        dueRead("m 2;w 0 1 0 1", -33);
        dueRead("m 2;g 0 1 1 w", -32);
        dueRead("m 2;/", -24);
        dueRead("m 2:", -23);
        dueRead("m /;", -22);
    }

    private static void readRefusedItems() {
        part = "promise 10, refused items";
        dueRead("m 0;", -23);
        dueRead("m -1 ;", -25);
        dueRead("m 17;", -24);
        dueRead("m 999999  ;", -30);
        dueRead("m 16;m 1;", -28);
        dueRead("w 0 1 0 1;", -29);
        dueRead("m 2;w 0 2 0 1;", -33);
        dueRead("m 2;w -1 0 0 1;", -34);
        dueRead("m 2;w 0 0 0 1;", -33);
        dueRead("m 2;w 0 1 1 0;", -33);
        dueRead("m 2;w 0 1 0 100001;", -38);
        dueRead("m 2;w 0 1 -100001 0;", -39);
        dueRead("m 2;g 0 1 0 1;", -33);
        dueRead("m 2;g 0 1 1 1;g 0 1 1 1;", -43);
        dueRead("m 2;g 0 1 1 1;g 1 0 1 1;", -43);
        dueRead("m 2;w 0 2 0 1;m 1;", -33);
        dueRead("m 2;w 0 2 0 1 x", -34);
        StringBuilder gifts = new StringBuilder("m 8;");
        for (int i = 0; i < 6; i++) {
            gifts.append("g ").append(i).append(' ').append(i + 1).append(" 1 1;");
        }
        dueRead(gifts.toString(), 6);
        dueRead(gifts + "g 6 7 1 1;", -20 - gifts.length() - 9);
    }

    private static void readAndTheNet() {
        part = "promise 10, the net";
        TickPlans x = waitingNet();
        x.start();
        due("wrong", -24, readText(x, "m 5;x"));
        due("the tape is empty", 0, x.told(4));
        due("moments stay", 3, x.told(0));
        due("links stay", 2, x.told(1));
        due("gifts stay", 1, x.told(2));
        due("the run stays", 0, x.now());
        due("right", 1, readText(x, "m 2;w 0 1 3 3;"));
        due("the tape is empty", 0, x.told(4));
        due("moments", 2, x.told(0));
        due("links", 1, x.told(1));
        due("gifts", 0, x.told(2));
        due("the run ends", STATE, x.now());
        due("distance", 3, x.distance(0, 1));
        due("an edge of the new net", 3, x.edge(0, 1));
        due("read of nothing", 0, x.read());
        due("moments", 0, x.told(0));
        due("again the first form", 2, readText(x, "m 3;g 0 1 2 5;w 1 2 0 2;"));
        due("a wait of the new net", -5, x.wait(2, 0));
        due("moments behind what was read", 4, x.moments(1));
        due("a wish behind what was read", 2, x.wish(3, 0, 0, 0));
    }

    private static void together() {
        part = "promise 11";
        TickPlans x = net(3);
        due("no links", 1, x.together());
        x.wish(0, 1, 2, 5);
        due("a link", 1, x.together());
        x.wish(0, 1, 5, 9);
        due("they touch", 1, x.together());
        x.tighten(1, 6, 9);
        due("they do not", 0, x.together());
        x.undo();
        x.wish(1, 2, 3, 3);
        x.wish(2, 0, -8, -8);
        due("a ring of 0", 1, x.together());
        x.tighten(2, -9, -9);
        due("a ring below 0", 0, x.together());
        TickPlans y = net(2);
        y.gift(0, 1, 2, 5);
        y.wish(0, 1, 5, 5);
        due("gifts are steps, too", 1, y.together());
        y.tighten(1, 6, 6);
        due("gifts are steps, too", 0, y.together());
    }

    private static void distance() {
        part = "promise 12";
        TickPlans x = net(5);
        x.wish(0, 1, 2, 5);
        x.gift(1, 2, 3, 7);
        x.wish(0, 2, -4, 100);
        due("to itself", 0, x.distance(0, 0));
        due("alone, to itself", 0, x.distance(4, 4));
        due("along high", 12, x.distance(0, 2));
        due("along low", -5, x.distance(2, 0));
        due("one step", 5, x.distance(0, 1));
        due("one step back", -2, x.distance(1, 0));
        due("a gift's high", 7, x.distance(1, 2));
        due("a gift's low", -3, x.distance(2, 1));
        due("no way", FAR, x.distance(0, 3));
        due("no way", FAR, x.distance(4, 0));
        due("no such moment", 0, x.distance(5, 0));
        due("no such moment", 0, x.distance(0, -1));
        x.wish(3, 4, 1, 1);
        x.wish(3, 4, 2, 2);
        due("it does not hang together", 0, x.distance(0, 2));
    }

    private static void strong() {
        part = "promise 13";
        TickPlans x = net(4);
        due("no links", 1, x.strong());
        x.gift(0, 1, 2, 5);
        due("a gift alone", 1, x.strong());
        x.wish(1, 2, 0, 3);
        due("just wide enough", 1, x.strong());
        x.tighten(1, 0, 2);
        due("too narrow", 0, x.strong());
        x.tighten(1, 0, 3);
        x.wish(0, 2, 5, 5);
        due("the only time", 1, x.strong());
        x.tighten(2, 4, 4);
        due("another time", 0, x.strong());
        x.tighten(2, 6, 6);
        due("another time", 0, x.strong());
        TickPlans y = net(4);
        y.gift(0, 1, 1, 9);
        y.gift(1, 2, 1, 2);
        y.gift(1, 3, 4, 5);
        y.wish(2, 3, 2, 4);
        due("what both have says nothing", 1, y.strong());
        y.tighten(3, 3, 4);
        due("too late", 0, y.strong());
        y.tighten(3, 2, 3);
        due("too early", 0, y.strong());
        y.tighten(3, 2, 4);
        y.wish(0, 3, 5, 14);
        due("from a beginning to its end", 1, y.strong());
        y.tighten(4, 6, 14);
        due("from a beginning to its end", 0, y.strong());
        y.tighten(4, 5, 13);
        due("from a beginning to its end", 0, y.strong());
    }

    private static void weak() {
        part = "promise 14";
        TickPlans x = net(4);
        due("no links", 1, x.weak());
        x.gift(0, 1, 2, 5);
        x.gift(1, 3, 1, 1);
        x.wish(1, 2, 3, 3);
        due("not strong", 0, x.strong());
        due("weak", 1, x.weak());
        x.wish(0, 1, 2, 5);
        due("all lengths", 1, x.weak());
        x.tighten(3, 3, 5);
        due("not the low", 0, x.weak());
        due("together", 1, x.together());
        x.tighten(3, 2, 4);
        due("not the high", 0, x.weak());
        x.tighten(3, 0, 9);
        due("all lengths", 1, x.weak());
        TickPlans y = net(3);
        y.gift(0, 1, 2, 5);
        y.gift(0, 2, 2, 5);
        y.wish(1, 2, -3, 3);
        due("two gifts", 1, y.weak());
        y.tighten(2, -2, 3);
        due("high and low", 0, y.weak());
    }

    private static void spoiler() {
        part = "promise 15";
        TickPlans x = net(4);
        x.gift(0, 1, 2, 5);
        x.gift(0, 2, 3, 7);
        x.gift(0, 3, 1, 9);
        due("weak", STATE, x.spoiler(0));
        due("no such gift", UNKNOWN, x.spoiler(3));
        due("below 0", UNKNOWN, x.spoiler(-1));
        x.wish(1, 2, -100, 4);
        // 2: GIFT 1 is high, the others are low.
        due("gift 0", 2, x.spoiler(0));
        due("gift 1", 7, x.spoiler(1));
        due("gift 2", 1, x.spoiler(2));
        due("no such gift", UNKNOWN, x.spoiler(3));
        x.tighten(3, -1, 100);
        // 1: GIFT 0 is high.
        due("gift 0", 5, x.spoiler(0));
        due("gift 1", 3, x.spoiler(1));
        x.tighten(3, 0, 0);
        due("all low", 2, x.spoiler(0));
        due("all low", 3, x.spoiler(1));
        x.tighten(3, -100, 100);
        x.wish(0, 3, 1, 8);
        // 4: GIFT 2 is high.
        due("gift 0", 2, x.spoiler(0));
        due("gift 2", 9, x.spoiler(2));
        x.undo();
        due("weak again", STATE, x.spoiler(2));
    }

    private static void lively() {
        part = "promise 16";
        TickPlans x = net(3);
        due("no links", 1, x.lively());
        due("a gift", 1, waitingNet().lively());
        due("not strong", 0, waitingNet().strong());
        x.gift(0, 1, 2, 5);
        x.wish(2, 1, 1, 3);
        // It must be chosen ahead of what is not known yet, with room for less than what may come.
        due("too early to know", 0, x.lively());
        due("weak", 1, x.weak());
        due("strong", 0, x.strong());
        x.tighten(1, 1, 4);
        due("fixed ahead", 1, x.lively());
        due("strong", 1, x.strong());
    }

    private static void notLively() {
        part = "promise 16, not";
        TickPlans x = net(2);
        x.gift(0, 1, 2, 5);
        x.wish(0, 1, 2, 4);
        due("the gift may be longer", 0, x.lively());
        x.tighten(1, 3, 5);
        due("the gift may be shorter", 0, x.lively());
        x.tighten(1, 2, 5);
        due("neither", 1, x.lively());
        x.tighten(1, 6, 6);
        due("a ring", 0, x.lively());
        due("in the first round", 1, x.rounds());
    }

    private static void rounds() {
        part = "promise 17";
        TickPlans x = net(3);
        due("nothing changes", 1, x.rounds());
        x.wish(0, 1, 2, 5);
        due("a step needs no sum", 1, x.rounds());
        x.wish(1, 2, 2, 5);
        due("sums", 2, x.rounds());
        due("waits", 2, waitingNet().rounds());
        TickPlans y = net(3);
        y.wish(0, 1, 2, 2);
        y.wish(0, 1, 3, 3);
        due("a ring", 1, y.rounds());
    }

    private static void edge() {
        part = "promise 18";
        TickPlans x = waitingNet();
        long[][] want = {{0, 5, 7}, {-2, 0, 2}, {-2, 0, 0}};
        for (int a = 0; a < 3; a++) {
            for (int b = 0; b < 3; b++) {
                due("edge " + a + " " + b, want[a][b], x.edge(a, b));
            }
        }
        due("no such moment", 0, x.edge(3, 0));
        due("no such moment", 0, x.edge(0, -1));
        x.moments(1);
        due("no way", FAR, x.edge(0, 3));
        due("to itself", 0, x.edge(3, 3));
        x.wish(1, 2, -5, -5);
        due("not lively", 0, x.edge(0, 1));
        // WISH 2 to 1 of 1 to 4: W(2, 0) is 4 less 5, as much as -low or above: an edge.
        TickPlans y = net(3);
        y.gift(0, 1, 2, 5);
        y.wish(2, 1, 1, 4);
        due("a wait that became an edge", -1, y.edge(2, 0));
        due("an edge over a gift", 1, y.edge(0, 2));
    }

    private static void waits() {
        part = "promise 19";
        TickPlans x = waitingNet();
        due("the beginning", 0, x.wait(0, 0));
        due("the end", -5, x.wait(1, 0));
        due("another", -5, x.wait(2, 0));
        due("no such gift", 0, x.wait(1, 1));
        due("below 0", 0, x.wait(1, -1));
        due("no such moment", 0, x.wait(3, 0));
        due("below 0", 0, x.wait(-1, 0));
        x.moments(1);
        due("no way", FAR, x.wait(3, 0));
        x.wish(1, 2, -5, -5);
        due("not lively", 0, x.wait(1, 0));
        TickPlans y = net(3);
        y.gift(0, 1, 2, 5);
        y.wish(2, 1, 1, 4);
        due("ahead of the end", -1, y.wait(2, 0));
    }

    /** GIFTS 0 to 1 and 2 to 3, and 1 is not to come ahead of 3: so 0 has to wait for the other GIFT. */
    private static TickPlans crossingNet(int low) {
        TickPlans x = net(4);
        x.gift(0, 1, low, 6);
        x.gift(2, 3, 1, 5);
        x.wish(3, 1, 0, 100);
        return x;
    }

    private static void waitsOverGifts() {
        part = "promise 19, over gifts";
        TickPlans x = crossingNet(3);
        due("lively", 1, x.lively());
        due("rounds", 3, x.rounds());
        due("a wait over a gift", -2, x.wait(0, 1));
        // In the first ROUND W(0, 1) was 6 less 5, and became an edge; E(1, 2) follows in the second.
        due("what was a wait at first", 1, x.edge(0, 2));
        due("along it", -2, x.edge(1, 2));
        due("a wait that became an edge", 94, x.edge(3, 0));
        x.start();
        due("0 waits", 1, x.goOn());
        due("2 came", 0, x.came(2));
        due("too early", 0, x.may(0));
        x.happen(3);
        due("the other gift is there", 1, x.may(0));
        x.start();
        x.goOn();
        due("one tick", 1, x.idle(100));
        due("the wait is over", 1, x.may(0));
        // The wait is as short as the least length: nothing can come to know ahead of it.
        TickPlans y = crossingNet(4);
        due("lively", 1, y.lively());
        due("rounds", 4, y.rounds());
        due("the wait", -1, y.wait(0, 1));
        due("is an edge", -1, y.edge(0, 2));
        due("along it", -5, y.edge(1, 2));
        due("along it", 4, y.edge(0, 3));
    }

    private static void start() {
        part = "promise 20";
        TickPlans x = waitingNet();
        due("start", 1, x.start());
        due("now", 0, x.now());
        x.goOn();
        x.goOn();
        due("now", 2, x.now());
        due("came", 0, x.came(0));
        due("start anew", 1, x.start());
        due("now", 0, x.now());
        due("none has come", NONE, x.came(0));
        due("none has come", 0, x.told(3));
        x.wish(0, 2, 0, 3);
        due("no run", STATE, x.now());
        due("not lively", STATE, x.start());
        due("still no run", STATE, x.now());
        x.undo();
        due("no run by itself", STATE, x.now());
        due("lively again", 1, x.start());
        x.wish(0, 0, 0, 0);
        x.gift(0, 0, 1, 1);
        x.moments(0);
        x.tighten(9, 0, 0);
        due("refusals leave it", 0, x.now());
        x.gift(1, 2, 1, 1);
        due("a gift ends it", STATE, x.now());
    }

    private static void happen() {
        part = "promise 21";
        TickPlans x = waitingNet();
        due("no such moment", UNKNOWN, x.happen(3));
        due("below 0", UNKNOWN, x.happen(-1));
        due("no run", STATE, x.happen(1));
        x.start();
        due("UNKNOWN", UNKNOWN, x.happen(3));
        due("not GIVEN", STATE, x.happen(0));
        due("not GIVEN", STATE, x.happen(2));
        due("its beginning has not", STATE, x.happen(1));
        x.goOn();
        due("one tick ago", STATE, x.happen(1));
        x.goOn();
        due("two ticks ago", 1, x.happen(1));
        due("came", 2, x.came(1));
        due("it has come", STATE, x.happen(1));
        x.start();
        for (int i = 0; i < 5; i++) {
            x.goOn();
        }
        due("five ticks ago", 1, x.happen(1));
        x.start();
        for (int i = 0; i < 6; i++) {
            x.goOn();
        }
        due("six ticks ago", STATE, x.happen(1));
        TickPlans y = net(3);
        y.gift(0, 1, 1, 2);
        y.gift(1, 2, 1, 1);
        y.start();
        y.goOn();
        due("behind a gift that has not come", STATE, y.happen(2));
        due("the first", 1, y.happen(1));
        due("at once", STATE, y.happen(2));
        y.goOn();
        due("the next", 1, y.happen(2));
        due("all", 1, y.check());
    }

    private static void goOn() {
        part = "promise 22";
        TickPlans x = waitingNet();
        due("no run", STATE, x.goOn());
        x.start();
        due("the first", 1, x.goOn());
        due("now", 1, x.now());
        due("none", 0, x.goOn());
        x.happen(1);
        due("behind what happened", 1, x.goOn());
        due("came", 2, x.came(2));
        due("now", 3, x.now());
        due("all have come", 0, x.goOn());
        x.start();
        for (int i = 0; i < 5; i++) {
            due("at " + i, i == 0 ? 1 : 0, x.goOn());
        }
        due("the wait is over", 1, x.goOn());
        due("came", 5, x.came(2));
        due("late", STATE, x.goOn());
        due("now", 6, x.now());
        TickPlans y = net(4);
        y.wish(3, 2, 0, 0);
        y.wish(2, 1, 0, 4);
        y.wish(1, 0, 1, 4);
        y.start();
        due("one lets another", 3, y.goOn());
        due("the last", 1, y.goOn());
        due("came", 1, y.came(0));
        due("came", 0, y.came(1));
        due("check", 1, y.check());
    }

    private static void idle() {
        part = "promise 23";
        TickPlans x = waitingNet();
        due("no run", STATE, x.idle(1));
        due("OUTSIDE ahead of STATE", OUTSIDE, x.idle(-1));
        due("OUTSIDE ahead of STATE", OUTSIDE, x.idle(200001));
        x.start();
        due("one MAY come", 0, x.idle(10));
        x.goOn();
        due("0 times", 0, x.idle(0));
        due("2 times", 2, x.idle(2));
        due("now", 3, x.now());
        due("till one MAY come", 2, x.idle(200000));
        due("now", 5, x.now());
        due("it MAY", 1, x.may(2));
        x.goOn();
        due("late", STATE, x.idle(0));
        due("OUTSIDE ahead of late", OUTSIDE, x.idle(200001));
        TickPlans y = net(2);
        y.gift(0, 1, 2, 5);
        y.start();
        y.goOn();
        due("till one would be late", 4, y.idle(200000));
        due("now", 5, y.now());
        due("no further", 0, y.idle(1));
        due("it can happen", 1, y.happen(1));
        due("all have come", 200000, y.idle(200000));
        due("now", 200005, y.now());
        TickPlans z = net(2);
        z.wish(0, 1, 100000, 100000);
        z.start();
        due("the first", 1, z.goOn());
        due("just to the tick", 99999, z.idle(200000));
        due("it comes", 1, z.goOn());
        due("check", 1, z.check());
    }

    private static void came() {
        part = "promise 24";
        TickPlans x = waitingNet();
        due("no run", STATE, x.came(0));
        due("UNKNOWN ahead", UNKNOWN, x.came(3));
        x.start();
        due("not yet", NONE, x.came(0));
        x.goOn();
        due("at 0", 0, x.came(0));
        due("not yet", NONE, x.came(1));
        due("UNKNOWN", UNKNOWN, x.came(3));
        due("below 0", UNKNOWN, x.came(-1));
    }

    private static void may() {
        part = "promise 25";
        TickPlans x = waitingNet();
        due("no run", STATE, x.may(0));
        due("UNKNOWN ahead", UNKNOWN, x.may(3));
        due("below 0", UNKNOWN, x.may(-1));
        x.start();
        due("the first", 1, x.may(0));
        due("GIVEN", STATE, x.may(1));
        due("another must come ahead", 0, x.may(2));
        x.goOn();
        due("has come", STATE, x.may(0));
        x.goOn();
        due("it waits", 0, x.may(2));
        x.happen(1);
        due("no more", 1, x.may(2));
        TickPlans y = net(3);
        y.wish(0, 1, 2, 3);
        y.start();
        y.goOn();
        due("too early", 0, y.may(1));
        y.idle(9);
        due("right", 1, y.may(1));
        due("now", 2, y.now());
        TickPlans z = net(3);
        z.wish(0, 1, -2, 3);
        z.start();
        due("whichever", 1, z.may(0));
        due("whichever", 1, z.may(1));
        due("alone", 1, z.may(2));
    }

    private static void now() {
        part = "promise 26";
        TickPlans x = waitingNet();
        due("no run", STATE, x.now());
        x.start();
        due("now", 0, x.now());
        x.goOn();
        due("now", 1, x.now());
        x.idle(3);
        due("now", 4, x.now());
        x.undo();
        due("no run", STATE, x.now());
    }

    private static void check() {
        part = "promise 27";
        TickPlans x = waitingNet();
        due("no run", STATE, x.check());
        x.start();
        due("none", 0, x.check());
        x.goOn();
        x.idle(2);
        x.happen(1);
        due("not all", 0, x.check());
        x.goOn();
        due("all", 1, x.check());
        // Nobody lets the GIFT happen: MOMENT 2 comes when its wait is over, MOMENT 1 never does.
        TickPlans y = net(3);
        y.wish(1, 2, 0, 0);
        y.gift(0, 1, 1, 1);
        y.start();
        y.goOn();
        y.goOn();
        due("2 came at the end of its wait", 1, y.came(2));
        due("late by one", STATE, y.goOn());
        due("not all", 0, y.check());
        TickPlans z = net(4);
        z.wish(2, 3, 0, 5);
        z.gift(0, 1, 1, 3);
        z.wish(1, 2, 0, 0);
        z.start();
        z.goOn();
        z.idle(200000);
        due("at the end of the wait", 3, z.now());
        z.happen(1);
        z.goOn();
        due("kept", 1, z.check());
    }

    private static void told() {
        part = "promise 28";
        TickPlans x = waitingNet();
        x.feed(0, 0, 0, 0, 0);
        x.trim(7);
        int[] want = {3, 2, 1, 0, 7};
        for (int what = 0; what < 5; what++) {
            due("told " + what, want[what], x.told(what));
        }
        due("what 5", OUTSIDE, x.told(5));
        due("what -1", OUTSIDE, x.told(-1));
        x.start();
        due("none came", 0, x.told(3));
        x.goOn();
        x.idle(1);
        x.happen(1);
        due("two came", 2, x.told(3));
        x.undo();
        due("no run", 0, x.told(3));
        due("links", 1, x.told(1));
    }
}
