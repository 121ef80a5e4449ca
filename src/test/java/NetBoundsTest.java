import java.util.function.Supplier;

/** The boundary cases of nets and texts: Terms, their first part, and promises 1 to 10. */
public final class NetBoundsTest {
    private static final int UNKNOWN = Cases.UNKNOWN;
    private static final int OUTSIDE = Cases.OUTSIDE;
    private static final int STATE = Cases.STATE;
    private static final int FULL = Cases.FULL;
    private static final int NONE = Cases.NONE;
    private static final int LEAST = Cases.LEAST;
    private static final int GREATEST = Cases.GREATEST;

    public static void main(String[] args) {
        terms();
        text();
        newObject();
        moments();
        wish();
        gift();
        undo();
        tighten();
        link();
        tape();
        read();
        Cases.end();
    }

    private static void due(String call, long want, long got) {
        Cases.due(call, want, got);
    }

    private static void terms() {
        Cases.sentence("Terms: UNKNOWN -11, OUTSIDE -12, STATE -13, FULL -14, NONE is -9, FAR is 4611686018427387904", NetBoundsTest::constants);
        Cases.sentence("Terms: MOMENTS are numbered from 0 on, 16 at most", NetBoundsTest::numbersOfMoments);
        Cases.sentence("Terms: LINKS, 60 at most", NetBoundsTest::sixtyLinks);
        Cases.sentence("Terms: from a MOMENT to another one", NetBoundsTest::toAnotherOne);
        Cases.sentence("Terms: low, high (-100000 .. 100000", NetBoundsTest::bounds);
        Cases.sentence("Terms: low not above high", NetBoundsTest::lowNotAboveHigh);
        Cases.sentence("Terms: a GIFT: then low is above 0", NetBoundsTest::lowAboveZero);
        Cases.sentence("Terms: its end is GIVEN, no other GIFT ends there", NetBoundsTest::oneGiftEndsThere);
        Cases.sentence("Terms: going back from ends of GIFTS to their beginnings never comes round", NetBoundsTest::neverRound);
        Cases.sentence("Terms: GIFTS are numbered from 0 on, 6 at most, apart from LINKS, too", NetBoundsTest::numbersOfGifts);
    }

    private static void constants() {
        due("UNKNOWN", -11, TickPlans.UNKNOWN);
        due("OUTSIDE", -12, TickPlans.OUTSIDE);
        due("STATE", -13, TickPlans.STATE);
        due("FULL", -14, TickPlans.FULL);
        due("NONE", -9, TickPlans.NONE);
        due("FAR", 4611686018427387904L, TickPlans.FAR);
    }

    private static void numbersOfMoments() {
        TickPlans x = Cases.net(16);
        due("the last to the first", 0, x.wish(15, 0, 0, 0));
        due("the first to the last", 1, x.wish(0, 15, 0, 0));
        due("one too far", UNKNOWN, x.wish(0, 16, 0, 0));
        due("one too far", UNKNOWN, x.wish(16, 0, 0, 0));
        due("one below the first", UNKNOWN, x.wish(-1, 0, 0, 0));
        due("one below the first", UNKNOWN, x.wish(0, -1, 0, 0));
        TickPlans y = Cases.net(15);
        due("fifteen", UNKNOWN, y.wish(0, 15, 0, 0));
        due("the last of fifteen", 0, y.wish(0, 14, 0, 0));
        due("a sixteenth", 16, y.moments(1));
        due("it is there", 1, y.wish(0, 15, 0, 0));
        due("a seventeenth", FULL, y.moments(1));
    }

    private static void sixtyLinks() {
        TickPlans x = Cases.net(2);
        for (int l = 0; l < 59; l++) {
            due("wish " + l, l, x.wish(0, 1, 0, l));
        }
        due("the sixtieth", 59, x.wish(1, 0, -7, 7));
        due("it stands", 7, x.link(59, 3));
        due("the first stands", 0, x.link(0, 3));
        due("one more", FULL, x.wish(0, 1, 0, 0));
        due("told", 60, x.told(1));
    }

    private static void toAnotherOne() {
        TickPlans x = Cases.net(2);
        due("a wish to itself", STATE, x.wish(0, 0, 0, 0));
        due("a wish to itself", STATE, x.wish(1, 1, 0, 0));
        due("a gift to itself", STATE, x.gift(1, 1, 1, 1));
        due("to another one", 0, x.wish(0, 1, 0, 0));
        due("the same two again", 1, x.wish(0, 1, 0, 0));
        due("the other way", 2, x.wish(1, 0, 0, 0));
    }

    private static void bounds() {
        TickPlans x = Cases.net(3);
        due("the least low", 0, x.wish(0, 1, -100000, 0));
        due("below it", OUTSIDE, x.wish(0, 1, -100001, 0));
        due("the greatest high", 1, x.wish(0, 1, 0, 100000));
        due("above it", OUTSIDE, x.wish(0, 1, 0, 100001));
        due("both least", 2, x.wish(0, 1, -100000, -100000));
        due("both below", OUTSIDE, x.wish(0, 1, -100001, -100001));
        due("both greatest", 3, x.wish(0, 1, 100000, 100000));
        due("both above", OUTSIDE, x.wish(0, 1, 100001, 100001));
        due("both ends", 4, x.wish(0, 1, -100000, 100000));
        due("least and greatest of all", OUTSIDE, x.wish(0, 1, LEAST, GREATEST));
        due("low least of all", OUTSIDE, x.wish(0, 1, LEAST, 0));
        due("high greatest of all", OUTSIDE, x.wish(0, 1, 0, GREATEST));
        due("a gift's greatest", 5, x.gift(0, 1, 100000, 100000));
        due("above it", OUTSIDE, x.gift(0, 2, 100000, 100001));
        due("greatest of all", OUTSIDE, x.gift(0, 2, GREATEST, GREATEST));
        due("told", 6, x.told(1));
    }

    private static void lowNotAboveHigh() {
        TickPlans x = Cases.net(2);
        due("low is high", 0, x.wish(0, 1, 5, 5));
        due("low is one above", OUTSIDE, x.wish(0, 1, 6, 5));
        due("low is one below", 1, x.wish(0, 1, 4, 5));
        due("turned about", OUTSIDE, x.wish(0, 1, 100000, -100000));
        due("a gift, one above", OUTSIDE, x.gift(0, 1, 6, 5));
        due("a gift, low is high", 2, x.gift(0, 1, 5, 5));
    }

    private static void lowAboveZero() {
        TickPlans x = Cases.net(3);
        due("0", OUTSIDE, x.gift(0, 1, 0, 5));
        due("0 and 0", OUTSIDE, x.gift(0, 1, 0, 0));
        due("-1", OUTSIDE, x.gift(0, 1, -1, 5));
        due("1", 0, x.gift(0, 1, 1, 5));
        due("1 and 1", 1, x.gift(0, 2, 1, 1));
        due("a wish may have 0", 2, x.wish(0, 1, 0, 0));
        due("a wish may have -1", 3, x.wish(0, 1, -1, -1));
    }

    private static void oneGiftEndsThere() {
        TickPlans x = Cases.net(4);
        due("a gift", 0, x.gift(0, 1, 1, 1));
        due("another to its end", STATE, x.gift(2, 1, 1, 1));
        due("the same again", STATE, x.gift(0, 1, 1, 1));
        due("a wish to its end", 1, x.wish(2, 1, -9, 9));
        due("a gift from its end", 2, x.gift(1, 2, 1, 1));
        due("another from its beginning", 3, x.gift(0, 3, 1, 1));
        x.start();
        due("its end is GIVEN", STATE, x.may(1));
        due("its beginning is not", 1, x.may(0));
    }

    private static void neverRound() {
        for (int gifts = 1; gifts <= 6; gifts++) {
            TickPlans x = Cases.chain(gifts);
            due("from the end of " + gifts + " to their beginning", STATE, x.gift(gifts, 0, 1, 1));
        }
        TickPlans y = Cases.net(7);
        for (int g = 5; g >= 1; g--) {
            due("put from behind " + g, 5 - g, y.gift(g, g + 1, 1, 1));
        }
        due("from the end to the beginning", STATE, y.gift(6, 1, 1, 1));
        due("a wish comes round", 5, y.wish(6, 1, -100000, 0));
        due("one that leads to the beginning", 6, y.gift(0, 1, 1, 1));
        TickPlans z = Cases.net(4);
        z.gift(0, 1, 1, 1);
        z.gift(2, 3, 1, 1);
        due("two chains become one", 2, z.gift(1, 2, 1, 1));
        due("which has no way round", STATE, z.gift(3, 0, 1, 1));
    }

    private static void numbersOfGifts() {
        TickPlans x = Cases.net(8);
        due("a wish", 0, x.wish(0, 1, 0, 9));
        for (int g = 0; g < 6; g++) {
            due("gift " + g, 2 * g + 1, x.gift(0, g + 1, 1, 1));
            due("its number", g, x.link(2 * g + 1, 4));
            due("a wish", 2 * g + 2, x.wish(0, 7, -9, 9));
            due("it has none", NONE, x.link(2 * g + 2, 4));
        }
        due("a seventh", FULL, x.gift(0, 7, 1, 1));
        due("told", 6, x.told(2));
        due("a wish still fits", 13, x.wish(0, 7, 1, 1));
    }

    private static void text() {
        Cases.sentence("Terms: A text: any number of items", NetBoundsTest::anyNumberOfItems);
        Cases.sentence("Terms: with blanks (32, 10) between or not", NetBoundsTest::blanks);
        Cases.sentence("Terms: letters, ;", NetBoundsTest::lettersAndMarks);
        Cases.sentence("Terms: numbers in tens (a row of digits, as long as can be", NetBoundsTest::rowsOfDigits);
        Cases.sentence("Terms: - just ahead of it or not", NetBoundsTest::minus);
        Cases.sentence("Terms: more than six digits are no token", NetBoundsTest::sixDigits);
        Cases.sentence("Terms: WRONG at the first byte of the first token that can not stand there", NetBoundsTest::tokensOutOfPlace);
        Cases.sentence("Terms: (or is none)", NetBoundsTest::noTokens);
        Cases.sentence("Terms: of an item that would be refused, at its ;", NetBoundsTest::refusedItems);
        Cases.sentence("Terms: of an item that would be refused (by the limits of MOMENTS, LINKS, GIFTS)", NetBoundsTest::limitsInText);
    }

    private static void anyNumberOfItems() {
        Cases.right("", 0);
        Cases.right("m 1;", 0);
        Cases.right(Cases.repeated("m 1;", 16), 0);
        Cases.right("m 2;w 0 1 0 0;m 14;w 15 0 0 0;", 2);
        Cases.right("m2;" + Cases.repeated("w0 1 0 0;", 60), 60);
    }

    private static void blanks() {
        Cases.right("m2;w0 1 0 0;", 1);
        Cases.right("m 2 ; w 0 1 0 0 ; ", 1);
        Cases.right("\n\nm\n2\n;\nw\n0\n1\n0\n0\n;\n\n", 1);
        Cases.right(" \n \n", 0);
        Cases.right(Cases.repeated(" ", 1000), 0);
        Cases.right(Cases.repeated("\n", 996) + "m 1;", 0);
        for (int other : new int[] {0, 1, 9, 11, 12, 13, 31, 33, 95, 127, 128, 138, 160, 255}) {
            Cases.wrongAt("m 1; " + (char) other, 5);
            Cases.wrongAt("m" + (char) other + "1;", 1);
        }
    }

    private static void lettersAndMarks() {
        Cases.right("m 2;w 0 1 0 0;g 0 1 1 1;", 2);
        for (String other : new String[] {"l", "n", "v", "x", "f", "h", "M", "W", "G", "0", "-1", ";", ":", "\u00ed", "\u00f7", "\u00e7"}) {
            Cases.wrongAt(other + " 2;", 0);
            Cases.wrongAt("m 2;" + other + " 0 1 1 1;", 4);
        }
        for (String other : new String[] {":", "<", ",", ".", "\u00bb"}) {
            Cases.wrongAt("m 2" + other, 3);
            Cases.wrongAt("m 2;w 0 1 0 0" + other, 13);
        }
    }

    private static void rowsOfDigits() {
        TickPlans x = new TickPlans();
        due("16 is one number", 0, Cases.readText(x, "m16;"));
        due("moments", 16, x.told(0));
        Cases.wrongAt("m1 6;", 3);
        Cases.wrongAt("m1\n6;", 3);
        Cases.wrongAt("m 1/;", 3);
        Cases.wrongAt("m 1:;", 3);
        Cases.wrongAt("m /;", 2);
        Cases.wrongAt("m :;", 2);
        due("all digits", 1, Cases.readText(x, "m 2;w 0 1 -98765 43210;"));
        due("low", -98765, x.link(0, 2));
        due("high", 43210, x.link(0, 3));
        due("a letter ends a row", 0, Cases.readText(x, "m 3;m 4;"));
        due("moments", 7, x.told(0));
        Cases.wrongAt("m 2w", 3);
    }

    private static void minus() {
        TickPlans x = new TickPlans();
        due("with and without", 1, Cases.readText(x, "m 2;w 0 1-5-3;"));
        due("low", -5, x.link(0, 2));
        due("high", -3, x.link(0, 3));
        due("-0 is 0", 1, Cases.readText(x, "m 2;w -0 1 -0 0;"));
        due("low", 0, x.link(0, 2));
        Cases.wrongAt("m 2;w 0 1 - 5 3;", 10);
        Cases.wrongAt("m 2;w 0 1 -\n5 3;", 10);
        Cases.wrongAt("m 2;w 0 1 --5 3;", 10);
        Cases.wrongAt("m 2;w 0 1 -", 10);
        Cases.wrongAt("m 2;w 0 1 -;", 10);
        Cases.wrongAt("m 2;w 0 1 5-;", 11);
        Cases.wrongAt("m 2;w 0 1 +5 6;", 10);
        Cases.wrongAt("m 2;-", 4);
    }

    private static void sixDigits() {
        Cases.right("m 000002;", 0);
        Cases.wrongAt("m 0000002;", 2);
        Cases.right("m 2;w 0 1 -100000 100000;", 1);
        Cases.right("m 2;w -00000 000001 -000001 000000;", 1);
        Cases.wrongAt("m 2;w 0 1 -0000001 0;", 10);
        Cases.wrongAt("m 2;w 0 1 0 0000001;", 12);
        Cases.wrongAt("m 2;w 0 1 0 1000000;", 12);
        Cases.wrongAt("m 2;w 0 1 0 999999;", 18);
        Cases.wrongAt("m 2 1234567;", 4);
        Cases.wrongAt("1234567", 0);
        // 4294967298 is 2 above what an int holds.
        Cases.wrongAt("m 4294967298;", 2);
        Cases.wrongAt("m 18446744073709551618;", 2);
        Cases.wrongAt("m " + Cases.repeated("0", 997) + "1", 2);
    }

    private static void tokensOutOfPlace() {
        String[] tokens = {"w", "0", "1", "0", "1", ";"};
        for (int place = 0; place < tokens.length; place++) {
            StringBuilder before = new StringBuilder("m 2;");
            for (int i = 0; i < place; i++) {
                before.append(tokens[i]).append(' ');
            }
            for (String other : new String[] {"m", "w", "g", ";", "7"}) {
                boolean letter = other.equals("m") || other.equals("w") || other.equals("g");
                boolean stands = place == 0 ? letter : place == 5 ? other.equals(";") : other.equals("7");
                if (!stands) {
                    Cases.wrongAt(before + other + " x", before.length());
                }
            }
        }
        Cases.wrongAt("m 2 3;", 4);
        Cases.wrongAt("m m;", 2);
        Cases.wrongAt("m ;", 2);
        Cases.wrongAt(";", 0);
        Cases.wrongAt("m 2;;", 4);
        Cases.wrongAt("m 2;w 0 1 0 1 2;", 14);
        Cases.wrongAt("m 2;w 0 1 0;", 11);
    }

    private static void noTokens() {
        Cases.wrongAt("x", 0);
        Cases.wrongAt("  x", 2);
        Cases.wrongAt("m 2;\n x", 6);
        Cases.wrongAt("m x;", 2);
        Cases.wrongAt("m 2 x;", 4);
        Cases.wrongAt("m 2;w 0 1 0 1 x", 14);
        Cases.wrongAt("\u00ff", 0);
        Cases.wrongAt("\0", 0);
    }

    private static void refusedItems() {
        Cases.wrongAt("m 0;", 3);
        Cases.wrongAt("m 0  ;", 5);
        Cases.wrongAt("m 0\n\n;x", 5);
        Cases.wrongAt("m 17 ;", 5);
        Cases.wrongAt("m 2;w 0 2 0 1 ;", 14);
        Cases.wrongAt("m 2;w 0 2 0 1;m 1;", 13);
        // What is refused shows at its ; only: a token ahead of it that can not stand there is first.
        Cases.wrongAt("m 17 x", 5);
        Cases.wrongAt("m 17", 4);
        Cases.wrongAt("m 2;w 0 2 1 0 w", 14);
    }

    private static void limitsInText() {
        Cases.right("m 16;", 0);
        Cases.wrongAt("m 16;m 1;", 8);
        Cases.wrongAt("m -1;", 4);
        Cases.wrongAt("w 0 1 0 1;", 9);
        Cases.wrongAt("m 1;w 0 1 0 1;", 13);
        Cases.wrongAt("m 2;w -1 0 0 1;", 14);
        Cases.wrongAt("m 2;w 0 0 0 1;", 13);
        Cases.right("m 2;w 0 1 1 1;", 1);
        Cases.wrongAt("m 2;w 0 1 2 1;", 13);
        Cases.wrongAt("m 2;w 0 1 0 100001;", 18);
        Cases.wrongAt("m 2;w 0 1 -100001 0;", 19);
        Cases.right("m 2;g 0 1 1 100000;", 1);
        Cases.wrongAt("m 2;g 0 1 1 100001;", 18);
        Cases.wrongAt("m 2;g 0 1 0 1;", 13);
        Cases.wrongAt("m 2;g 0 0 1 1;", 13);
        Cases.wrongAt("m 3;g 0 1 1 1;g 2 1 1 1;", 23);
        Cases.wrongAt("m 2;g 0 1 1 1;g 1 0 1 1;", 23);
        String sixty = "m2;" + Cases.repeated("w0 1 0 0;", 60);
        Cases.wrongAt(sixty + "w0 1 0 0;", sixty.length() + 8);
        Cases.wrongAt(sixty + "g0 1 1 1;", sixty.length() + 8);
        String six = "m9;g0 1 1 1;g1 2 1 1;g2 3 1 1;g3 4 1 1;g4 5 1 1;g5 6 1 1;";
        Cases.right(six + "w6 7 1 1;", 7);
        Cases.wrongAt(six + "g6 7 1 1;", six.length() + 8);
    }

    private static void newObject() {
        Cases.sentence("Promise 1: No MOMENTS, LINKS; an empty TAPE", NetBoundsTest::nothingThere);
        Cases.sentence("Promise 1: a new object refuses what needs a MOMENT, a LINK, a GIFT or a RUN", NetBoundsTest::newObjectRefuses);
        Cases.sentence("Promise 1: a net of nothing HANGS TOGETHER, is STRONG, WEAK, LIVELY, and can be run", NetBoundsTest::netOfNothing);
    }

    private static void nothingThere() {
        for (int what = 0; what < 5; what++) {
            due("told " + what, 0, new TickPlans().told(what));
        }
        due("the first moment", 1, new TickPlans().moments(1));
        due("the first feed", 20, new TickPlans().feed(0, 0, 0, 0, 0));
        TickPlans used = Cases.fullRunning();
        TickPlans x = new TickPlans();
        due("another object has moments", 16, used.told(0));
        due("this one has none", 0, x.told(0));
    }

    private static void newObjectRefuses() {
        Supplier<TickPlans> made = TickPlans::new;
        Cases.refused("wish", UNKNOWN, made, x -> x.wish(0, 1, 0, 0));
        Cases.refused("gift", UNKNOWN, made, x -> x.gift(0, 1, 1, 1));
        Cases.refused("undo", STATE, made, x -> x.undo());
        Cases.refused("tighten", UNKNOWN, made, x -> x.tighten(0, 1, 1));
        Cases.refused("link", UNKNOWN, made, x -> x.link(0, 0));
        Cases.refused("trim", OUTSIDE, made, x -> x.trim(1));
        Cases.refused("distance", 0, made, x -> x.distance(0, 0));
        Cases.refused("spoiler", UNKNOWN, made, x -> x.spoiler(0));
        Cases.refused("edge", 0, made, x -> x.edge(0, 0));
        Cases.refused("wait", 0, made, x -> x.wait(0, 0));
        Cases.refused("happen", UNKNOWN, made, x -> x.happen(0));
        Cases.refused("goOn", STATE, made, x -> x.goOn());
        Cases.refused("idle", STATE, made, x -> x.idle(0));
        Cases.refused("came", UNKNOWN, made, x -> x.came(0));
        Cases.refused("may", UNKNOWN, made, x -> x.may(0));
        Cases.refused("now", STATE, made, x -> x.now());
        Cases.refused("check", STATE, made, x -> x.check());
    }

    private static void netOfNothing() {
        TickPlans x = new TickPlans();
        due("together", 1, x.together());
        due("strong", 1, x.strong());
        due("weak", 1, x.weak());
        due("lively", 1, x.lively());
        due("rounds", 1, x.rounds());
        due("start", 1, x.start());
        due("check", 1, x.check());
        due("goOn", 0, x.goOn());
        due("idle", 200000, x.idle(200000));
        due("now", 200001, x.now());
    }

    private static void moments() {
        Cases.sentence("Promise 2: n MOMENTS more: how many there are", NetBoundsTest::howManyMoments);
        Cases.sentence("Promise 2: OUTSIDE: n is not 1 to 16", NetBoundsTest::momentsOutside);
        Cases.sentence("Promise 2: FULL", NetBoundsTest::momentsFull);
        Cases.sentence("Promise 2: OUTSIDE ahead of FULL", NetBoundsTest::momentsOutsideAheadOfFull);
    }

    private static void howManyMoments() {
        due("1", 1, new TickPlans().moments(1));
        due("16", 16, new TickPlans().moments(16));
        TickPlans x = new TickPlans();
        for (int n = 1; n <= 16; n++) {
            due("one more", n, x.moments(1));
        }
        TickPlans y = Cases.running();
        due("in a run", 4, y.moments(1));
        due("it ends", STATE, y.now());
    }

    private static void momentsOutside() {
        for (int n : new int[] {0, -1, 17, -16, LEAST, GREATEST}) {
            Cases.refused("moments " + n, OUTSIDE, TickPlans::new, x -> x.moments(n));
            Cases.refused("moments " + n, OUTSIDE, Cases::running, x -> x.moments(n));
        }
    }

    private static void momentsFull() {
        Cases.refused("moments 14", FULL, Cases::running, x -> x.moments(14));
        Cases.refused("moments 16", FULL, Cases::running, x -> x.moments(16));
        due("moments 13", 16, Cases.running().moments(13));
        Cases.refused("moments 1", FULL, Cases::fullRunning, x -> x.moments(1));
        Cases.refused("moments 16", FULL, Cases::fullRunning, x -> x.moments(16));
        Cases.refused("moments 16", FULL, () -> Cases.net(1), x -> x.moments(16));
        due("moments 15", 16, Cases.net(1).moments(15));
    }

    private static void momentsOutsideAheadOfFull() {
        for (int n : new int[] {0, 17, LEAST, GREATEST}) {
            Cases.refused("moments " + n, OUTSIDE, Cases::fullRunning, x -> x.moments(n));
        }
    }

    private static void wish() {
        Cases.sentence("Promise 3: A WISH: its number", NetBoundsTest::numberOfAWish);
        Cases.sentence("Promise 3: UNKNOWN", NetBoundsTest::wishUnknown);
        Cases.sentence("Promise 3: STATE: a is b", NetBoundsTest::wishState);
        Cases.sentence("Promise 3: OUTSIDE: low, high", NetBoundsTest::wishOutside);
        Cases.sentence("Promise 3: FULL", NetBoundsTest::wishFull);
        Cases.sentence("Promise 3: UNKNOWN; STATE; OUTSIDE; FULL, in this order", NetBoundsTest::wishOrder);
    }

    private static void numberOfAWish() {
        due("the first", 0, Cases.net(2).wish(0, 1, 0, 0));
        TickPlans x = Cases.running();
        due("the third link", 2, x.wish(0, 2, 0, 9));
        due("the run ends", STATE, x.now());
        due("it is no gift", NONE, x.link(2, 4));
        due("told", 1, x.told(2));
    }

    private static void wishUnknown() {
        for (int m : new int[] {-1, 3, 16, LEAST, GREATEST}) {
            Cases.refused("wish from " + m, UNKNOWN, Cases::running, x -> x.wish(m, 0, 0, 0));
            Cases.refused("wish to " + m, UNKNOWN, Cases::running, x -> x.wish(0, m, 0, 0));
        }
        due("from the last", 2, Cases.running().wish(2, 0, 0, 0));
        due("to the last", 2, Cases.running().wish(0, 2, 0, 0));
    }

    private static void wishState() {
        for (int m = 0; m < 3; m++) {
            int same = m;
            Cases.refused("wish to itself " + m, STATE, Cases::running, x -> x.wish(same, same, 0, 0));
        }
        due("to the next", 2, Cases.running().wish(0, 1, 0, 0));
    }

    private static void wishOutside() {
        int[][] outside = {{-100001, 0}, {0, 100001}, {-100001, -100001}, {100001, 100001}, {1, 0}, {100000, -100000},
            {LEAST, 0}, {0, GREATEST}, {LEAST, GREATEST}, {GREATEST, LEAST}};
        for (int[] o : outside) {
            Cases.refused("wish " + o[0] + " " + o[1], OUTSIDE, Cases::running, x -> x.wish(0, 2, o[0], o[1]));
        }
        int[][] inside = {{-100000, 0}, {0, 100000}, {-100000, -100000}, {100000, 100000}, {0, 0}, {-100000, 100000}};
        for (int[] i : inside) {
            due("wish " + i[0] + " " + i[1], 2, Cases.running().wish(0, 2, i[0], i[1]));
        }
    }

    private static void wishFull() {
        Cases.refused("wish 61", FULL, Cases::fullRunning, x -> x.wish(0, 1, 0, 0));
        TickPlans x = Cases.full();
        due("one goes", 59, x.undo());
        due("a sixtieth", 59, x.wish(0, 1, 0, 0));
    }

    private static void wishOrder() {
        Cases.refused("UNKNOWN ahead of STATE", UNKNOWN, Cases::running, x -> x.wish(3, 3, 0, 0));
        Cases.refused("UNKNOWN ahead of OUTSIDE", UNKNOWN, Cases::running, x -> x.wish(0, 3, 1, 0));
        Cases.refused("UNKNOWN ahead of FULL", UNKNOWN, Cases::fullRunning, x -> x.wish(0, 16, 0, 0));
        Cases.refused("STATE ahead of OUTSIDE", STATE, Cases::running, x -> x.wish(1, 1, 1, 0));
        Cases.refused("STATE ahead of FULL", STATE, Cases::fullRunning, x -> x.wish(1, 1, 0, 0));
        Cases.refused("OUTSIDE ahead of FULL", OUTSIDE, Cases::fullRunning, x -> x.wish(0, 1, 1, 0));
        Cases.refused("all at once", UNKNOWN, Cases::fullRunning, x -> x.wish(16, 16, 1, 0));
        Cases.refused("all but UNKNOWN", STATE, Cases::fullRunning, x -> x.wish(0, 0, 1, 0));
    }

    private static void gift() {
        Cases.sentence("Promise 4: A GIFT: its number as a LINK", NetBoundsTest::numberOfAGift);
        Cases.sentence("Promise 4: UNKNOWN", NetBoundsTest::giftUnknown);
        Cases.sentence("Promise 4: STATE: a is b", NetBoundsTest::giftToItself);
        Cases.sentence("Promise 4: OUTSIDE: low, high, low is not above 0", NetBoundsTest::giftOutside);
        Cases.sentence("Promise 4: then STATE: b is GIVEN", NetBoundsTest::giftToGiven);
        Cases.sentence("Promise 4: then STATE: it would come round", NetBoundsTest::giftRound);
        Cases.sentence("Promise 4: FULL: LINKS", NetBoundsTest::giftLinksFull);
        Cases.sentence("Promise 4: FULL: GIFTS", NetBoundsTest::giftGiftsFull);
        Cases.sentence("Promise 4: UNKNOWN; STATE; OUTSIDE; then STATE; FULL, in this order", NetBoundsTest::giftOrder);
    }

    private static void numberOfAGift() {
        TickPlans x = Cases.running();
        due("the third link", 2, x.gift(0, 2, 1, 1));
        due("the second gift", 1, x.link(2, 4));
        due("the run ends", STATE, x.now());
        due("told", 2, x.told(2));
    }

    private static void giftUnknown() {
        for (int m : new int[] {-1, 3, 16, LEAST, GREATEST}) {
            Cases.refused("gift from " + m, UNKNOWN, Cases::running, x -> x.gift(m, 2, 1, 1));
            Cases.refused("gift to " + m, UNKNOWN, Cases::running, x -> x.gift(0, m, 1, 1));
        }
        due("to the last", 2, Cases.running().gift(0, 2, 1, 1));
        due("from the last", 2, Cases.running().gift(2, 0, 1, 1));
    }

    private static void giftToItself() {
        for (int m = 0; m < 3; m++) {
            int same = m;
            Cases.refused("gift to itself " + m, STATE, Cases::running, x -> x.gift(same, same, 1, 1));
        }
    }

    private static void giftOutside() {
        int[][] outside = {{0, 1}, {0, 0}, {-1, 1}, {-100000, 100000}, {2, 1}, {1, 100001}, {100001, 100001},
            {LEAST, 1}, {1, GREATEST}, {LEAST, GREATEST}, {GREATEST, LEAST}};
        for (int[] o : outside) {
            Cases.refused("gift " + o[0] + " " + o[1], OUTSIDE, Cases::running, x -> x.gift(0, 2, o[0], o[1]));
        }
        int[][] inside = {{1, 1}, {1, 2}, {1, 100000}, {100000, 100000}};
        for (int[] i : inside) {
            due("gift " + i[0] + " " + i[1], 2, Cases.running().gift(0, 2, i[0], i[1]));
        }
    }

    private static void giftToGiven() {
        Cases.refused("from another", STATE, Cases::running, x -> x.gift(2, 1, 1, 1));
        Cases.refused("from its beginning", STATE, Cases::running, x -> x.gift(0, 1, 1, 1));
        TickPlans x = Cases.net(3);
        x.gift(0, 1, 1, 1);
        x.undo();
        due("it is GIVEN no more", 0, x.gift(2, 1, 1, 1));
    }

    private static void giftRound() {
        Cases.refused("back at once", STATE, Cases::running, x -> x.gift(1, 0, 1, 1));
        Cases.refused("back over five", STATE, () -> Cases.chain(5), x -> x.gift(5, 0, 1, 1));
        Cases.refused("back over six", STATE, () -> Cases.chain(6), x -> x.gift(6, 0, 1, 1));
        TickPlans x = Cases.chain(5);
        x.moments(1);
        due("a sixth that does not", 5, x.gift(6, 0, 1, 1));
        TickPlans y = Cases.chain(2);
        y.undo();
        due("no more round", 1, y.gift(2, 0, 1, 1));
    }

    private static TickPlans sixtyWishes() {
        TickPlans x = Cases.net(3);
        for (int l = 0; l < 60; l++) {
            x.wish(0, 1, 0, 3);
        }
        return x;
    }

    private static void giftLinksFull() {
        Cases.refused("the first gift, link 61", FULL, NetBoundsTest::sixtyWishes, x -> x.gift(0, 2, 1, 1));
        TickPlans x = sixtyWishes();
        x.undo();
        due("link 60", 59, x.gift(0, 2, 1, 1));
        due("its number", 0, x.link(59, 4));
    }

    private static TickPlans sixGifts() {
        TickPlans x = Cases.chain(6);
        x.moments(2);
        x.start();
        x.goOn();
        return x;
    }

    private static void giftGiftsFull() {
        Cases.refused("a seventh", FULL, NetBoundsTest::sixGifts, x -> x.gift(7, 8, 1, 1));
        Cases.refused("a seventh, behind all six", FULL, NetBoundsTest::sixGifts, x -> x.gift(6, 7, 1, 1));
        Cases.refused("a seventh, ahead of all six", FULL, NetBoundsTest::sixGifts, x -> x.gift(7, 0, 1, 1));
        due("a wish", 6, sixGifts().wish(7, 8, 1, 1));
        TickPlans x = sixGifts();
        x.undo();
        due("a sixth again", 5, x.gift(7, 8, 1, 1));
        due("its number", 5, x.link(5, 4));
        due("a seventh", FULL, x.gift(5, 6, 1, 1));
    }

    private static void giftOrder() {
        Cases.refused("UNKNOWN ahead of STATE", UNKNOWN, Cases::running, x -> x.gift(3, 3, 1, 1));
        Cases.refused("UNKNOWN ahead of OUTSIDE", UNKNOWN, Cases::running, x -> x.gift(0, 3, 0, 1));
        Cases.refused("UNKNOWN ahead of GIVEN", UNKNOWN, Cases::running, x -> x.gift(3, 1, 1, 1));
        Cases.refused("UNKNOWN ahead of FULL", UNKNOWN, Cases::fullRunning, x -> x.gift(0, 16, 1, 1));
        Cases.refused("to itself ahead of OUTSIDE", STATE, Cases::running, x -> x.gift(2, 2, 0, 1));
        Cases.refused("to itself ahead of FULL", STATE, Cases::fullRunning, x -> x.gift(15, 15, 1, 1));
        Cases.refused("OUTSIDE ahead of GIVEN", OUTSIDE, Cases::running, x -> x.gift(2, 1, 0, 1));
        Cases.refused("OUTSIDE ahead of coming round", OUTSIDE, Cases::running, x -> x.gift(1, 0, 2, 1));
        Cases.refused("OUTSIDE ahead of FULL", OUTSIDE, Cases::fullRunning, x -> x.gift(14, 15, 0, 1));
        Cases.refused("GIVEN ahead of FULL", STATE, Cases::fullRunning, x -> x.gift(14, 1, 1, 1));
        Cases.refused("coming round ahead of FULL", STATE, Cases::fullRunning, x -> x.gift(1, 0, 1, 1));
        Cases.refused("FULL last", FULL, Cases::fullRunning, x -> x.gift(14, 15, 1, 1));
    }

    private static void undo() {
        Cases.sentence("Promise 5: The LINK with the greatest number goes: how many there are", NetBoundsTest::theLastGoes);
        Cases.sentence("Promise 5: STATE: there is none", NetBoundsTest::nothingToUndo);
    }

    private static void theLastGoes() {
        TickPlans x = Cases.full();
        for (int links = 59; links >= 0; links--) {
            due("undo", links, x.undo());
            due("it is gone", UNKNOWN, x.link(links, 0));
            due("gifts", Math.max(0, links - 54), x.told(2));
        }
        due("no more", STATE, x.undo());
        due("moments stay", 16, x.told(0));
        TickPlans y = Cases.running();
        due("in a run", 1, y.undo());
        due("it ends", STATE, y.now());
        due("the gift stays", 0, y.link(0, 4));
    }

    private static TickPlans runWithoutLinks() {
        TickPlans x = Cases.net(2);
        Cases.feedText(x, "m 5;");
        x.start();
        x.goOn();
        return x;
    }

    private static void nothingToUndo() {
        Cases.refused("undo", STATE, TickPlans::new, x -> x.undo());
        Cases.refused("undo", STATE, NetBoundsTest::runWithoutLinks, x -> x.undo());
        TickPlans x = Cases.net(2);
        x.wish(0, 1, 0, 0);
        due("one", 0, x.undo());
        due("none", STATE, x.undo());
    }

    private static void tighten() {
        Cases.sentence("Promise 6: The bounds of a LINK become others: 1", NetBoundsTest::otherBounds);
        Cases.sentence("Promise 6: UNKNOWN", NetBoundsTest::tightenUnknown);
        Cases.sentence("Promise 6: OUTSIDE, as when it came: a WISH", NetBoundsTest::tightenWishOutside);
        Cases.sentence("Promise 6: OUTSIDE, as when it came: a GIFT", NetBoundsTest::tightenGiftOutside);
        Cases.sentence("Promise 6: UNKNOWN; OUTSIDE, in this order", NetBoundsTest::tightenOrder);
    }

    private static void otherBounds() {
        TickPlans x = Cases.running();
        due("the first link", 1, x.tighten(0, 1, 100000));
        due("the run ends", STATE, x.now());
        due("low", 1, x.link(0, 2));
        due("high", 100000, x.link(0, 3));
        due("the other link's low", 0, x.link(1, 2));
        due("wider", 1, x.tighten(1, -100000, 100000));
        due("one number", 1, x.tighten(1, 7, 7));
        due("low", 7, x.link(1, 2));
        due("high", 7, x.link(1, 3));
        due("its moments", 1, x.link(1, 0));
        due("its moments", 2, x.link(1, 1));
        due("the sixtieth of a full net", 1, Cases.full().tighten(59, 3, 3));
    }

    private static void tightenUnknown() {
        for (int l : new int[] {-1, 2, 59, 60, LEAST, GREATEST}) {
            Cases.refused("tighten " + l, UNKNOWN, Cases::running, x -> x.tighten(l, 1, 1));
        }
        Cases.refused("tighten 60", UNKNOWN, Cases::fullRunning, x -> x.tighten(60, 1, 1));
        TickPlans x = Cases.running();
        x.undo();
        due("one that went", UNKNOWN, x.tighten(1, 1, 1));
    }

    private static void tightenWishOutside() {
        int[][] outside = {{-100001, 0}, {0, 100001}, {1, 0}, {LEAST, 0}, {0, GREATEST}, {GREATEST, LEAST}};
        for (int[] o : outside) {
            Cases.refused("tighten " + o[0] + " " + o[1], OUTSIDE, Cases::running, x -> x.tighten(1, o[0], o[1]));
        }
        int[][] inside = {{-100000, 0}, {0, 100000}, {0, 0}, {-1, -1}};
        for (int[] i : inside) {
            due("tighten " + i[0] + " " + i[1], 1, Cases.running().tighten(1, i[0], i[1]));
        }
    }

    private static void tightenGiftOutside() {
        int[][] outside = {{0, 5}, {-1, 5}, {6, 5}, {1, 100001}, {LEAST, 5}, {1, GREATEST}};
        for (int[] o : outside) {
            Cases.refused("tighten " + o[0] + " " + o[1], OUTSIDE, Cases::running, x -> x.tighten(0, o[0], o[1]));
        }
        int[][] inside = {{1, 5}, {5, 5}, {1, 1}, {1, 100000}, {100000, 100000}};
        for (int[] i : inside) {
            due("tighten " + i[0] + " " + i[1], 1, Cases.running().tighten(0, i[0], i[1]));
        }
    }

    private static void tightenOrder() {
        Cases.refused("UNKNOWN ahead of OUTSIDE", UNKNOWN, Cases::running, x -> x.tighten(2, 1, 0));
        Cases.refused("UNKNOWN ahead of OUTSIDE", UNKNOWN, Cases::running, x -> x.tighten(-1, LEAST, GREATEST));
    }

    private static void link() {
        Cases.sentence("Promise 7: 0, 1 its MOMENTS, 2 low, 3 high, 4 its number as a GIFT (NONE)", NetBoundsTest::partsOfLinks);
        Cases.sentence("Promise 7: UNKNOWN", NetBoundsTest::linkUnknown);
        Cases.sentence("Promise 7: OUTSIDE", NetBoundsTest::linkOutside);
        Cases.sentence("Promise 7: UNKNOWN; OUTSIDE, in this order", () ->
                Cases.refused("UNKNOWN ahead of OUTSIDE", UNKNOWN, Cases::running, x -> x.link(2, 5)));
    }

    private static void partsOfLinks() {
        TickPlans x = Cases.net(16);
        x.wish(15, 0, -100000, 100000);
        x.gift(0, 15, 1, 100000);
        x.gift(15, 14, 100000, 100000);
        int[][] want = {{15, 0, -100000, 100000, NONE}, {0, 15, 1, 100000, 0}, {15, 14, 100000, 100000, 1}};
        for (int l = 0; l < 3; l++) {
            for (int what = 0; what < 5; what++) {
                due("link " + l + " " + what, want[l][what], x.link(l, what));
            }
        }
        TickPlans y = Cases.full();
        due("the last wish", NONE, y.link(53, 4));
        due("the first gift", 0, y.link(54, 4));
        due("the last gift", 5, y.link(59, 4));
        due("its end", 11, y.link(59, 1));
    }

    private static void linkUnknown() {
        for (int l : new int[] {-1, 2, 60, LEAST, GREATEST}) {
            Cases.refused("link " + l, UNKNOWN, Cases::running, x -> x.link(l, 0));
        }
        due("the last", 1, Cases.running().link(1, 0));
        Cases.refused("link 60", UNKNOWN, Cases::fullRunning, x -> x.link(60, 0));
        Cases.refused("none there", UNKNOWN, () -> Cases.net(16), x -> x.link(0, 0));
    }

    private static void linkOutside() {
        for (int what : new int[] {-1, 5, LEAST, GREATEST}) {
            Cases.refused("what " + what, OUTSIDE, Cases::running, x -> x.link(0, what));
        }
        due("what 0", 0, Cases.running().link(0, 0));
        due("what 4", 0, Cases.running().link(0, 4));
    }

    private static void tape() {
        Cases.sentence("Promise 8: Twenty bytes come behind THE TAPE (1000 at most)", NetBoundsTest::twentyBytes);
        Cases.sentence("Promise 8: of each number the highest first", NetBoundsTest::highestFirst);
        Cases.sentence("Promise 8: FULL", NetBoundsTest::feedFull);
        Cases.sentence("Promise 9: THE TAPE keeps its first n bytes: n", NetBoundsTest::keepsFirst);
        Cases.sentence("Promise 9: OUTSIDE: n is below 0, or above what it has", NetBoundsTest::trimOutside);
    }

    private static void twentyBytes() {
        TickPlans x = new TickPlans();
        for (int feeds = 1; feeds <= 50; feeds++) {
            due("feed", 20 * feeds, x.feed(LEAST, GREATEST, 0, -1, feeds));
        }
        due("told", 1000, x.told(4));
        due("feed 51", FULL, x.feed(0, 0, 0, 0, 0));
        TickPlans y = Cases.running();
        int had = y.told(4);
        due("behind what is there", had + 20, y.feed(0, 0, 0, 0, 0));
        due("the run stays", 1, y.now());
        due("the links stay", 2, y.told(1));
    }

    private static void highestFirst() {
        TickPlans x = new TickPlans();
        // m 3;w 0 2 -7 12;
        x.feed(0x6d20333b, 0x77203020, 0x32202d37, 0x2031323b, 0x20202020);
        due("read", 1, x.read());
        due("end", 2, x.link(0, 1));
        due("low", -7, x.link(0, 2));
        due("high", 12, x.link(0, 3));
        int[] shifted = {0x20ffffff, 0x2020ffff, 0x202020ff, 0xffffffff};
        int[] places = {1, 2, 3, 0};
        for (int i = 0; i < 4; i++) {
            for (int number = 0; number < 5; number++) {
                int[] n = {0x20202020, 0x0a0a0a0a, 0x20202020, 0x0a0a0a0a, 0x20202020};
                n[number] = shifted[i];
                x.feed(n[0], n[1], n[2], n[3], n[4]);
                due("a byte that is no token", -20 - 4 * number - places[i], x.read());
            }
        }
    }

    private static TickPlans tapeOf(int bytes) {
        TickPlans x = Cases.running();
        x.trim(0);
        Cases.feedText(x, "m 2;w 0 1 3 4;" + Cases.repeated(" ", 986));
        x.trim(bytes);
        return x;
    }

    private static void feedFull() {
        Cases.refused("at 1000", FULL, () -> tapeOf(1000), x -> x.feed(1, 2, 3, 4, 5));
        Cases.refused("at 999", FULL, () -> tapeOf(999), x -> x.feed(1, 2, 3, 4, 5));
        Cases.refused("at 981", FULL, () -> tapeOf(981), x -> x.feed(-1, -1, -1, -1, -1));
        due("at 980", 1000, tapeOf(980).feed(1, 2, 3, 4, 5));
        due("at 979", 999, tapeOf(979).feed(1, 2, 3, 4, 5));
        TickPlans x = tapeOf(1000);
        x.read();
        due("behind a read", 20, x.feed(1, 2, 3, 4, 5));
    }

    private static void keepsFirst() {
        TickPlans x = new TickPlans();
        due("nothing of nothing", 0, x.trim(0));
        x.feed(0, 0, 0, 0, 0);
        due("all", 20, x.trim(20));
        due("all but one", 19, x.trim(19));
        due("told", 19, x.told(4));
        due("one", 1, x.trim(1));
        due("none", 0, x.trim(0));
        due("told", 0, x.told(4));
        due("a full tape, all", 1000, tapeOf(1000).trim(1000));
        due("a full tape, none", 0, tapeOf(1000).trim(0));
        TickPlans y = Cases.running();
        y.trim(4);
        due("the first bytes stay", 0, y.read());
        due("m 2;", 2, y.told(0));
    }

    private static void trimOutside() {
        for (int n : new int[] {-1, 15, 20, 1000, 1001, LEAST, GREATEST}) {
            Cases.refused("trim " + n, OUTSIDE, Cases::running, x -> x.trim(n));
        }
        due("what it has", 14, Cases.running().trim(14));
        Cases.refused("nothing there", OUTSIDE, TickPlans::new, x -> x.trim(1));
        Cases.refused("a full tape", OUTSIDE, () -> tapeOf(1000), x -> x.trim(1001));
        TickPlans x = Cases.running();
        x.trim(3);
        due("what went does not come back", OUTSIDE, x.trim(4));
    }

    private static void read() {
        Cases.sentence("Promise 10: THE TAPE (which is empty then)", NetBoundsTest::tapeIsEmptyThen);
        Cases.sentence("Promise 10: its net in place of the one that is: how many LINKS", NetBoundsTest::inPlace);
        Cases.sentence("Promise 10: -20 less the place at which it is WRONG", NetBoundsTest::wrongPlaces);
        Cases.sentence("Promise 10: (the end: its length)", NetBoundsTest::theEnd);
        Cases.sentence("Promise 10: the net stays", NetBoundsTest::theNetStays);
    }

    private static void tapeIsEmptyThen() {
        TickPlans x = Cases.running();
        due("right", 1, x.read());
        due("empty", 0, x.told(4));
        due("nothing is a text of no items", 0, x.read());
        due("no moments", 0, x.told(0));
        TickPlans y = Cases.running();
        y.feed(-1, -1, -1, -1, -1);
        due("wrong", -34, y.read());
        due("empty", 0, y.told(4));
    }

    private static void inPlace() {
        TickPlans x = Cases.fullRunning();
        due("read", 1, x.read());
        due("moments", 3, x.told(0));
        due("links", 1, x.told(1));
        due("gifts", 1, x.told(2));
        due("no run", STATE, x.now());
        due("its link", 2, x.link(0, 0));
        due("a link of the old net", UNKNOWN, x.link(1, 0));
        due("a moment of the old net", UNKNOWN, x.came(3));
        due("sixty", 60, Cases.readText(x, "m2;" + Cases.repeated("w0 1 0 0;", 60)));
        due("one more", FULL, x.wish(0, 1, 0, 0));
        due("nothing", 0, Cases.readText(x, ""));
        due("moments", 0, x.told(0));
        due("links", 0, x.told(1));
    }

    private static void wrongPlaces() {
        Cases.wrongAt("x", 0);
        Cases.wrongAt(" x", 1);
        Cases.wrongAt(Cases.repeated(" ", 999) + "x", 999);
        Cases.wrongAt(Cases.repeated(" ", 995) + "m 0;x", 998);
    }

    private static void theEnd() {
        Cases.wrongAt("m", 1);
        Cases.wrongAt("m ", 2);
        Cases.wrongAt("m 2", 3);
        Cases.wrongAt("m 2 \n", 5);
        Cases.wrongAt("m 2;w", 5);
        Cases.wrongAt("m 2;w 0 1 0", 11);
        Cases.wrongAt("m 2;w 0 1 0 1", 13);
        Cases.wrongAt(Cases.repeated(" ", 999) + "m", 1000);
        Cases.wrongAt("m" + Cases.repeated(" ", 999), 1000);
    }

    private static TickPlans runningWith(String text) {
        TickPlans x = Cases.running();
        x.trim(0);
        Cases.feedText(x, text);
        return x;
    }

    /** The waiting net, read as often as told, with a RUN. */
    private static TickPlans runningRead(int times) {
        TickPlans x = Cases.full();
        for (int i = 0; i < times; i++) {
            Cases.readText(x, "m 3;g 0 1 2 5;w 1 2 0 2;");
        }
        x.start();
        x.goOn();
        return x;
    }

    private static long placeOf(TickPlans x, String text) {
        Cases.feedText(x, text);
        return x.read();
    }

    /** It is no REFUSAL, THE TAPE goes: so these objects have an empty one ahead of the text. */
    private static void theNetStays() {
        String[] texts = {"x", "m 5;x", "m 5;w 0 1 0 9;w 0 1 1 0;", "m 3;g 0 1 1 1;g 1 0 1 1;", "m 9"};
        int[] places = {0, 4, 23, 23, 3};
        for (int i = 0; i < texts.length; i++) {
            String text = texts[i];
            Cases.refused("read of [" + text + "]", -20 - places[i], () -> runningWith(""), x -> placeOf(x, text));
            Cases.refused("behind one read: [" + text + "]", -20 - places[i], () -> runningRead(1), x -> placeOf(x, text));
            Cases.refused("behind two reads: [" + text + "]", -20 - places[i], () -> runningRead(2), x -> placeOf(x, text));
        }
    }
}
