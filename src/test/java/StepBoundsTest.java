/** The boundary cases of lengths and waits: Terms, their second and third part, and promises 11 to 19. */
public final class StepBoundsTest {
    private static final int UNKNOWN = Cases.UNKNOWN;
    private static final int STATE = Cases.STATE;
    private static final long FAR = Cases.FAR;
    private static final int LEAST = Cases.LEAST;
    private static final int GREATEST = Cases.GREATEST;

    /** Found by a search for many ROUNDS; 14 are the most that it met. */
    private static final String LONG_WAY_TO_LIVELY = "m 15;g 5 4 1 786;w 3 4 -4 -4;g 11 6 17 571;g 12 5 30 246;"
            + "w 7 9 -1685 1;w 2 3 -22 165;g 4 7 43 957;g 14 12 5 100;w 13 8 -11 468;w 3 6 -99489 146;"
            + "g 13 11 902 1006;w 7 1 -174 31;w 9 8 -100000 -795;";
    private static final String LONG_WAY_TO_A_RING = "m 7;g 0 1 254 1325;w 5 4 -100000 54;g 6 0 318 901;"
            + "g 4 5 150 1415;w 5 2 -99027 -2028;g 3 4 606 1067;g 1 3 144 1533;g 2 6 293 2031;";

    public static void main(String[] args) {
        lengths();
        waitTerms();
        together();
        distance();
        strong();
        weak();
        spoiler();
        lively();
        rounds();
        edge();
        waits();
        Cases.end();
    }

    private static void due(String call, long want, long got) {
        Cases.due(call, want, got);
    }

    private static void lengths() {
        Cases.sentence("Terms: D(a, b) is 0 of a way of none", StepBoundsTest::wayOfNone);
        Cases.sentence("Terms: FAR, if there is none", StepBoundsTest::noWay);
        Cases.sentence("Terms: a step from a LINK's beginning to its end being high, from its end to its beginning -low (of GIFTS, too)",
                StepBoundsTest::stepsOfLinks);
        Cases.sentence("Terms: the least sum of steps", StepBoundsTest::longestSums);
        Cases.sentence("Terms: a RING, if some way from a MOMENT to itself has a sum below 0", StepBoundsTest::rings);
    }

    private static void wayOfNone() {
        due("a moment alone", 0, Cases.net(1).distance(0, 0));
        TickPlans x = Cases.net(2);
        x.wish(0, 1, -3, 5);
        due("ways round are longer", 0, x.distance(0, 0));
        due("ways round are longer", 0, x.distance(1, 1));
        x.tighten(0, 5, 5);
        due("a way round is as long", 0, x.distance(0, 0));
    }

    private static void noWay() {
        TickPlans x = Cases.net(3);
        due("no links", FAR, x.distance(0, 1));
        x.wish(1, 2, -100000, -100000);
        due("to linked ones", FAR, x.distance(0, 1));
        due("to linked ones, not less", FAR, x.distance(0, 2));
        due("from linked ones", FAR, x.distance(1, 0));
        due("from linked ones, not less", FAR, x.distance(2, 0));
        x.wish(0, 1, 0, 100000);
        due("one more link", 100000, x.distance(0, 1));
        due("one more link", 0, x.distance(0, 2));
        x.undo();
        due("it went", FAR, x.distance(0, 1));
    }

    private static void stepsOfLinks() {
        TickPlans x = Cases.net(4);
        x.wish(0, 1, -100000, 100000);
        due("high", 100000, x.distance(0, 1));
        due("-low", 100000, x.distance(1, 0));
        x.gift(2, 3, 1, 100000);
        due("a gift's high", 100000, x.distance(2, 3));
        due("a gift's -low", -1, x.distance(3, 2));
        x.tighten(0, -100000, -100000);
        due("high", -100000, x.distance(0, 1));
        due("-low", 100000, x.distance(1, 0));
    }

    private static TickPlans row(int low, int high) {
        TickPlans x = Cases.net(16);
        for (int m = 0; m < 15; m++) {
            x.wish(m, m + 1, low, high);
        }
        return x;
    }

    private static void longestSums() {
        TickPlans x = row(100000, 100000);
        due("fifteen highs", 1500000, x.distance(0, 15));
        due("fifteen lows", -1500000, x.distance(15, 0));
        due("as E", 1500000, x.edge(0, 15));
        due("as E", -1500000, x.edge(15, 0));
        TickPlans y = row(-100000, 100000);
        due("there", 1500000, y.distance(0, 15));
        due("and back", 1500000, y.distance(15, 0));
        y.wish(0, 15, -100000, 100000);
        due("a shorter way", 100000, y.distance(0, 15));
        due("along it", 200000, y.distance(0, 14));
    }

    private static void rings() {
        TickPlans x = Cases.net(2);
        x.wish(0, 1, 2, 5);
        x.wish(0, 1, 5, 9);
        due("two links, 0", 1, x.together());
        x.tighten(1, 6, 9);
        due("two links, -1", 0, x.together());
        x.tighten(1, 4, 9);
        due("two links, 1", 1, x.together());
        TickPlans y = row(1, 1);
        y.wish(15, 0, -15, -15);
        due("all sixteen, 0", 1, y.together());
        y.tighten(15, -16, -16);
        due("all sixteen, -1", 0, y.together());
        y.tighten(15, -14, -14);
        due("the other way, -1", 0, y.together());
        TickPlans z = row(100000, 100000);
        z.wish(15, 0, -100000, -100000);
        due("far below 0", 0, z.together());
        TickPlans w = Cases.net(16);
        w.wish(14, 15, 0, 0);
        w.wish(15, 14, 0, 0);
        due("among the last, 0", 1, w.together());
        w.tighten(1, 1, 1);
        due("among the last, -1", 0, w.together());
    }

    private static void waitTerms() {
        Cases.sentence("Terms: E(a, b) is the least step from a to b (of all LINKS, as above)", StepBoundsTest::leastSteps);
        Cases.sentence("Terms: 0 from a to itself, else FAR", StepBoundsTest::edgesOfNone);
        Cases.sentence("Terms: W(its end, g) is -high, all others FAR", StepBoundsTest::firstWaits);
        Cases.sentence("Terms: FAR and something is FAR", StepBoundsTest::farAndSomething);
        Cases.sentence("Terms: as it was when that began", StepBoundsTest::asItWas);
        Cases.sentence("Terms: 1 If there is a RING by E, it ends: not LIVELY", StepBoundsTest::ringByEdges);
        Cases.sentence("Terms: 3 if W(a, g) is not FAR, and is -low or above", StepBoundsTest::waitAtLow);
        Cases.sentence("Terms: 3 E(a, g's beginning) becomes W(a, g), if that is less", StepBoundsTest::waitIfLess);
        Cases.sentence("Terms: 4 if E(g's end, b) is below 0", StepBoundsTest::edgeBelowZero);
        Cases.sentence("Terms: 5 if W(g's end, h) is below 0", StepBoundsTest::waitBelowZero);
        Cases.sentence("Terms: 5 each other GIFT h", StepBoundsTest::otherGift);
        Cases.sentence("Terms: 6 a RING by steps E, and steps W(a, g) from a to g's beginning", StepBoundsTest::ringWithWaits);
        Cases.sentence("Terms: If no E, no W is another one than when the ROUND began, it ends: LIVELY", StepBoundsTest::noOther);
    }

    private static void leastSteps() {
        TickPlans x = Cases.net(2);
        x.wish(0, 1, -9, 9);
        x.wish(0, 1, 2, 12);
        x.wish(1, 0, -7, 30);
        due("the least high", 7, x.edge(0, 1));
        due("the greatest low", -2, x.edge(1, 0));
        x.gift(0, 1, 3, 6);
        due("of a gift, too", 6, x.edge(0, 1));
        due("of a gift, too", -3, x.edge(1, 0));
    }

    private static void edgesOfNone() {
        TickPlans x = Cases.net(16);
        for (int m = 0; m < 16; m++) {
            due("to itself", 0, x.edge(m, m));
            due("to another one", FAR, x.edge(m, 15 - m));
        }
    }

    private static void firstWaits() {
        TickPlans x = Cases.net(4);
        x.gift(0, 1, 1, 100000);
        x.gift(2, 3, 1, 1);
        due("the end", -100000, x.wait(1, 0));
        due("the other's end", -1, x.wait(3, 1));
        due("the beginning, by high and -high", 0, x.wait(0, 0));
        due("the beginning, by high and -high", 0, x.wait(2, 1));
        due("others", FAR, x.wait(2, 0));
        due("others", FAR, x.wait(3, 0));
        due("others", FAR, x.wait(0, 1));
        due("others", FAR, x.wait(1, 1));
    }

    private static void farAndSomething() {
        TickPlans x = Cases.net(5);
        x.gift(0, 1, 2, 5);
        x.wish(2, 3, -9, -7);
        x.gift(3, 4, 1, 8);
        due("lively", 1, x.lively());
        for (int a = 0; a < 5; a++) {
            for (int b = 0; b < 5; b++) {
                due("far " + a + " " + b, a < 2 != b < 2 ? 1 : 0, x.edge(a, b) == FAR ? 1 : 0);
            }
            due("far " + a, a < 2 ? 0 : 1, x.wait(a, 0) == FAR ? 1 : 0);
            due("far " + a, a < 2 ? 1 : 0, x.wait(a, 1) == FAR ? 1 : 0);
        }
    }

    /** Two GIFTS, one behind the other, and what is below 0 behind both: each ROUND carries it over one of them. */
    private static TickPlans twoGifts(boolean farOneFirst) {
        TickPlans x = Cases.net(5);
        if (farOneFirst) {
            x.gift(1, 2, 2, 9);
            x.gift(0, 1, 2, 9);
        } else {
            x.gift(0, 1, 2, 9);
            x.gift(1, 2, 2, 9);
        }
        // Without this, edges from 3 become less for as many ROUNDS.
        x.wish(3, 0, -100000, 60);
        return x;
    }

    private static void asItWas() {
        for (boolean farOneFirst : new boolean[] {false, true}) {
            TickPlans x = twoGifts(farOneFirst);
            x.wish(2, 3, -100000, -5);
            due("over one gift", -3, x.edge(1, 3));
            due("over both", -1, x.edge(0, 3));
            due("rounds, whichever came first", 3, x.rounds());
            TickPlans y = twoGifts(farOneFirst);
            y.gift(3, 4, 1, 40);
            y.wish(4, 2, 0, 100000);
            due("a wait of the end", -40, y.wait(2, 2));
            due("over one gift", -38, y.wait(1, 2));
            due("over both", -36, y.wait(0, 2));
            due("rounds, whichever came first", 3, y.rounds());
        }
    }

    private static void ringByEdges() {
        TickPlans x = Cases.net(2);
        x.wish(0, 1, 3, 3);
        x.wish(0, 1, 3, 3);
        due("0", 1, x.lively());
        x.tighten(1, 4, 4);
        due("-1", 0, x.lively());
        due("at once", 1, x.rounds());
        due("torn", 0, Cases.torn().lively());
        due("at once", 1, Cases.torn().rounds());
    }

    /** W(2, 0) is high less 5. */
    private static TickPlans aheadOfEnd(int high) {
        TickPlans x = Cases.net(3);
        x.gift(0, 1, 2, 5);
        x.wish(2, 1, 0, high);
        return x;
    }

    private static void waitAtLow() {
        due("-low", -2, aheadOfEnd(3).wait(2, 0));
        due("becomes an edge", -2, aheadOfEnd(3).edge(2, 0));
        due("one below -low", -3, aheadOfEnd(2).wait(2, 0));
        due("stays a wait", 0, aheadOfEnd(2).edge(2, 0));
        due("one above -low", -1, aheadOfEnd(4).wait(2, 0));
        due("becomes an edge", -1, aheadOfEnd(4).edge(2, 0));
        due("above 0", 1, aheadOfEnd(6).wait(2, 0));
        due("becomes an edge", 1, aheadOfEnd(6).edge(2, 0));
        due("it is lively with a wait", 1, aheadOfEnd(2).lively());
        TickPlans far = Cases.net(3);
        far.gift(0, 1, 2, 5);
        due("FAR", FAR, far.wait(2, 0));
        due("stays", FAR, far.edge(2, 0));
    }

    private static void waitIfLess() {
        TickPlans x = aheadOfEnd(4);
        x.wish(0, 2, 1, 9);
        due("as much as there is", -1, x.edge(2, 0));
        x.tighten(2, 0, 9);
        due("less than there is", -1, x.edge(2, 0));
        x.tighten(2, 2, 9);
        due("more than there is", -2, x.edge(2, 0));
    }

    private static void edgeBelowZero() {
        TickPlans x = Cases.net(3);
        x.gift(0, 1, 2, 5);
        x.wish(1, 2, -100, 0);
        due("0: along the gift's high", 5, x.edge(0, 2));
        x.tighten(1, -100, -1);
        due("-1: over the gift's low", 1, x.edge(0, 2));
        x.tighten(1, -100, 1);
        due("1: along the gift's high", 6, x.edge(0, 2));
        x.tighten(1, -100, -2);
        due("-2: over the gift's low", 0, x.edge(0, 2));
        TickPlans y = Cases.net(3);
        y.gift(1, 2, 2, 5);
        y.wish(2, 0, -100, 0);
        due("to MOMENT 0, 0", 5, y.edge(1, 0));
        y.tighten(1, -100, -1);
        due("to MOMENT 0, -1", 1, y.edge(1, 0));
    }

    /** W(1, 1), of the end of GIFT 0 and the other GIFT, is high less 5. */
    private static TickPlans crossing(int high) {
        TickPlans x = Cases.net(4);
        x.gift(0, 1, 2, 6);
        x.gift(2, 3, 1, 5);
        x.wish(1, 3, -100, high);
        return x;
    }

    private static void waitBelowZero() {
        due("0", 0, crossing(5).wait(1, 1));
        due("along the gift's high", 6, crossing(5).wait(0, 1));
        due("its edge", 6, crossing(5).edge(0, 2));
        due("-1", -1, crossing(4).wait(1, 1));
        due("over the gift's low", 1, crossing(4).wait(0, 1));
        due("-2, a wait that is no edge", -2, crossing(3).wait(1, 1));
        due("over the gift's low", 0, crossing(3).wait(0, 1));
        due("its edge", 0, crossing(3).edge(0, 2));
        TickPlans x = Cases.net(4);
        x.gift(2, 3, 1, 5);
        x.gift(0, 1, 2, 6);
        x.wish(1, 3, -100, 5);
        due("of GIFT 0, 0", 6, x.wait(0, 0));
        x.tighten(2, -100, 3);
        due("of GIFT 0, -2", 0, x.wait(0, 0));
    }

    private static void otherGift() {
        TickPlans x = Cases.net(2);
        x.gift(0, 1, 2, 5);
        due("its own wait stays", 0, x.wait(0, 0));
        due("lively", 1, x.lively());
        x.tighten(0, 1, 100000);
        due("its own wait stays", 0, x.wait(0, 0));
        due("lively", 1, x.lively());
    }

    private static void ringWithWaits() {
        TickPlans x = Cases.net(3);
        x.gift(0, 1, 2, 5);
        x.wish(1, 2, 0, 100);
        x.wish(0, 2, -100, 5);
        due("0", 1, x.lively());
        x.tighten(2, -100, 4);
        due("-1", 0, x.lively());
        due("though it hangs together", 1, x.together());
        due("in the first round", 1, x.rounds());
        x.tighten(2, -100, 6);
        due("1", 1, x.lively());
        x.tighten(2, -100, 2);
        due("-3, which is below -low and no edge", 0, x.lively());
        // W(0, 1) is -14 at first, and -18 once it has come over the gift.
        TickPlans z = Cases.net(4);
        z.gift(0, 1, 2, 6);
        z.gift(2, 3, 1, 20);
        z.wish(1, 3, -100, 0);
        z.wish(2, 0, -100, 18);
        due("0, by a wait that came over a gift", 1, z.lively());
        due("0, by a wait that came over a gift", -18, z.wait(0, 1));
        z.tighten(3, -100, 17);
        due("-1", 0, z.lively());
        due("in the first round", 1, z.rounds());
        // Once E(2, 0) is W(2, 0) and E(0, 2) has come over the gift, the ring is one by E.
        TickPlans y = Cases.net(3);
        y.gift(0, 1, 2, 5);
        y.wish(2, 1, 1, 4);
        due("0", 1, y.lively());
        y.tighten(1, 1, 3);
        due("-1", 0, y.lively());
        due("but weak", 1, y.weak());
    }

    private static void noOther() {
        TickPlans x = Cases.net(3);
        due("nothing to change", 1, x.rounds());
        x.wish(0, 1, 0, 5);
        x.wish(0, 2, 0, 5);
        x.wish(1, 2, -5, 5);
        due("sums that are no less", 1, x.rounds());
        due("lively", 1, x.lively());
        x.tighten(2, -5, 6);
        due("one sum that is less", 2, x.rounds());
        TickPlans y = Cases.net(2);
        y.gift(0, 1, 5, 5);
        due("W(0, 0) becomes 0", 2, y.rounds());
    }

    private static void together() {
        Cases.sentence("Promise 11: Whether the net HANGS TOGETHER: 1, 0", () -> {
            due("nothing", 1, new TickPlans().together());
            due("no links", 1, Cases.net(16).together());
            due("a full net", 1, Cases.full().together());
            due("torn", 0, Cases.torn().together());
            TickPlans x = Cases.torn();
            x.undo();
            due("mended", 1, x.together());
        });
    }

    private static void distance() {
        Cases.sentence("Promise 12: 0: UNKNOWN", StepBoundsTest::distanceUnknown);
        Cases.sentence("Promise 12: 0: STATE: it does not HANG TOGETHER", () -> {
            Cases.refused("distance of a torn net", 0, Cases::torn, x -> x.distance(0, 1));
            Cases.refused("of others", 0, Cases::torn, x -> x.distance(1, 2));
            due("of one that does", 5, Cases.waiting().distance(0, 1));
            TickPlans x = Cases.torn();
            x.moments(1);
            due("of one that is far", 0, x.distance(0, 3));
        });
    }

    private static void distanceUnknown() {
        for (int m : new int[] {-1, 3, 16, LEAST, GREATEST}) {
            Cases.refused("from " + m, 0, Cases::running, x -> x.distance(m, 1));
            Cases.refused("to " + m, 0, Cases::running, x -> x.distance(1, m));
            Cases.refused("from and to " + m, 0, Cases::running, x -> x.distance(m, m));
        }
        due("from the last", -2, Cases.running().distance(2, 0));
        due("to the last", 7, Cases.running().distance(0, 2));
        Cases.refused("to 16 of 16", 0, Cases::fullRunning, x -> x.distance(0, 16));
        Cases.refused("from 16 of 16", 0, Cases::fullRunning, x -> x.distance(16, 0));
        Cases.refused("to -1 of 16", 0, Cases::fullRunning, x -> x.distance(1, -1));
    }

    private static void strong() {
        Cases.sentence("Promise 13: Whether it is STRONG: 1, 0", StepBoundsTest::strongOrNot);
        Cases.sentence("Terms: STRONG: whatever the lengths of GIFTS are", StepBoundsTest::whateverTheLengths);
    }

    private static void strongOrNot() {
        due("nothing", 1, new TickPlans().strong());
        due("no links", 1, Cases.net(16).strong());
        due("gifts alone", 1, Cases.chain(6).strong());
        due("a full net", 1, Cases.full().strong());
        due("torn", 0, Cases.torn().strong());
        TickPlans x = Cases.net(2);
        x.wish(0, 1, 3, 3);
        due("no gifts", 1, x.strong());
        x.wish(0, 1, 4, 4);
        due("no gifts, a ring", 0, x.strong());
    }

    private static void whateverTheLengths() {
        TickPlans x = Cases.chain(6);
        x.wish(0, 6, 6, 12);
        due("just the sums", 1, x.strong());
        x.tighten(6, 7, 12);
        due("low one above", 0, x.strong());
        x.tighten(6, 6, 11);
        due("high one below", 0, x.strong());
        x.tighten(6, 7, 13);
        due("as wide, one later", 0, x.strong());
        x.tighten(6, 5, 11);
        due("as wide, one earlier", 0, x.strong());
        x.tighten(6, 5, 13);
        due("wider", 1, x.strong());
        TickPlans y = Cases.net(3);
        y.gift(0, 1, 1, 100000);
        y.wish(1, 2, -50000, 49999);
        due("as wide as the gift", 1, y.strong());
        y.tighten(1, -50000, 49998);
        due("one too narrow", 0, y.strong());
        TickPlans z = Cases.net(3);
        z.gift(0, 1, 7, 7);
        z.wish(1, 2, 0, 0);
        due("a gift of one length", 1, z.strong());
        z.tighten(0, 7, 8);
        due("of two lengths", 0, z.strong());
    }

    private static void weak() {
        Cases.sentence("Promise 14: Whether it is WEAK: 1, 0", () -> {
            due("nothing", 1, new TickPlans().weak());
            due("no links", 1, Cases.net(16).weak());
            due("gifts alone", 1, Cases.chain(6).weak());
            due("a full net", 1, Cases.full().weak());
            due("torn", 0, Cases.torn().weak());
            due("not strong, but weak", 1, Cases.waiting().weak());
            due("not strong, but weak", 0, Cases.waiting().strong());
        });
        Cases.sentence("Terms: WEAK: for all lengths of GIFTS there are such times", () -> {
            TickPlans x = Cases.chain(6);
            x.wish(0, 6, 6, 12);
            due("just the sums", 1, x.weak());
            x.tighten(6, 7, 12);
            due("all low will not do", 0, x.weak());
            x.tighten(6, 6, 11);
            due("all high will not do", 0, x.weak());
            due("though it hangs together", 1, x.together());
        });
    }

    private static TickPlans boundChain(int low, int high) {
        TickPlans x = Cases.chain(6);
        x.wish(0, 6, low, high);
        return x;
    }

    private static void spoiler() {
        Cases.sentence("Promise 15: told by numbers rising from 0 (GIFT g has high, if bit g is 1), the first ones", StepBoundsTest::firstSpoiler);
        Cases.sentence("Promise 15: UNKNOWN", StepBoundsTest::spoilerUnknown);
        Cases.sentence("Promise 15: STATE: it is WEAK", () -> {
            Cases.refused("weak", STATE, Cases::running, x -> x.spoiler(0));
            Cases.refused("weak, the last gift", STATE, Cases::fullRunning, x -> x.spoiler(5));
            due("by one not weak", 1, boundChain(7, 12).spoiler(0));
        });
        Cases.sentence("Promise 15: UNKNOWN; STATE, in this order", () -> {
            Cases.refused("UNKNOWN ahead of STATE", UNKNOWN, Cases::running, x -> x.spoiler(1));
            Cases.refused("UNKNOWN ahead of STATE", UNKNOWN, Cases::fullRunning, x -> x.spoiler(6));
        });
    }

    private static void firstSpoiler() {
        for (int g = 0; g < 6; g++) {
            due("number 0, all low", 1, boundChain(7, 12).spoiler(g));
            due("number 63, all high", 2, boundChain(6, 11).spoiler(g));
            due("number 3, two high", g < 2 ? 2 : 1, boundChain(6, 7).spoiler(g));
            due("number 31, five high", g < 5 ? 2 : 1, boundChain(6, 10).spoiler(g));
            due("0 is ahead of 63", 1, boundChain(7, 11).spoiler(g));
            TickPlans x = Cases.chain(6);
            x.wish(5, 6, 1, 1);
            due("number 32, the last high", g == 5 ? 2 : 1, x.spoiler(g));
        }
    }

    private static void spoilerUnknown() {
        for (int g : new int[] {-1, 1, 6, 31, 32, LEAST, GREATEST}) {
            Cases.refused("of " + g, UNKNOWN, Cases::torn, x -> x.spoiler(g));
        }
        due("the last of one", 2, Cases.torn().spoiler(0));
        Cases.refused("6 of 6", UNKNOWN, () -> boundChain(7, 12), x -> x.spoiler(6));
        due("the last of six", 1, boundChain(7, 12).spoiler(5));
        Cases.refused("no gifts", UNKNOWN, () -> Cases.net(2), x -> x.spoiler(0));
    }

    private static void lively() {
        Cases.sentence("Promise 16: Whether it is LIVELY: 1, 0", () -> {
            due("nothing", 1, new TickPlans().lively());
            due("no links", 1, Cases.net(16).lively());
            due("gifts alone", 1, Cases.chain(6).lively());
            due("a full net", 1, Cases.full().lively());
            due("torn", 0, Cases.torn().lively());
            due("with a wait", 1, Cases.waiting().lively());
            TickPlans x = Cases.waiting();
            x.wish(0, 2, 0, 7);
            due("a wish that is there by sums", 1, x.lively());
            x.tighten(2, 0, 5);
            due("as late as the wait", 1, x.lively());
            x.tighten(2, 0, 4);
            due("ahead of the wait", 0, x.lively());
            x.undo();
            due("it went", 1, x.lively());
        });
    }

    private static void rounds() {
        Cases.sentence("Promise 17: How many ROUNDS that took, the last one, too", () -> {
            due("nothing", 1, new TickPlans().rounds());
            due("no links", 1, Cases.net(16).rounds());
            due("torn", 1, Cases.torn().rounds());
            due("sums, and one that changes nothing", 2, Cases.waiting().rounds());
            TickPlans x = row(1, 2);
            due("sums of fifteen", 2, x.rounds());
            x.undo();
            due("asked anew behind a change", 2, x.rounds());
            for (int links = 14; links > 1; links--) {
                x.undo();
            }
            due("one link", 1, x.rounds());
            TickPlans y = new TickPlans();
            Cases.readText(y, LONG_WAY_TO_LIVELY);
            due("a long way", 14, y.rounds());
            due("lively", 1, y.lively());
            Cases.readText(y, LONG_WAY_TO_A_RING);
            due("a long way to a ring", 6, y.rounds());
            due("not lively", 0, y.lively());
        });
    }

    private static void edge() {
        Cases.sentence("Promise 18: 0: UNKNOWN", () -> {
            for (int m : new int[] {-1, 3, 16, LEAST, GREATEST}) {
                Cases.refused("from " + m, 0, Cases::running, x -> x.edge(m, 1));
                Cases.refused("to " + m, 0, Cases::running, x -> x.edge(1, m));
                Cases.refused("from and to " + m, 0, Cases::running, x -> x.edge(m, m));
            }
            due("from the last", -2, Cases.running().edge(2, 0));
            due("to the last", 7, Cases.running().edge(0, 2));
            Cases.refused("to 16 of 16", 0, Cases::fullRunning, x -> x.edge(0, 16));
            Cases.refused("from 16 of 16", 0, Cases::fullRunning, x -> x.edge(16, 0));
            Cases.refused("to -1 of 16", 0, Cases::fullRunning, x -> x.edge(1, -1));
            due("which would be this one", -1, Cases.full().edge(1, 0));
        });
        Cases.sentence("Promise 18: 0: STATE: not LIVELY", () -> {
            Cases.refused("torn", 0, Cases::torn, x -> x.edge(0, 1));
            TickPlans x = Cases.waiting();
            x.wish(0, 2, 0, 4);
            due("together, not lively", 0, x.edge(0, 1));
            x.tighten(2, 0, 5);
            due("lively", 5, x.edge(0, 1));
        });
    }

    private static void waits() {
        Cases.sentence("Promise 19: 0: UNKNOWN: the MOMENT", () -> {
            for (int m : new int[] {-1, 3, 16, LEAST, GREATEST}) {
                Cases.refused("of " + m, 0, Cases::running, x -> x.wait(m, 0));
            }
            due("of the last", -5, Cases.running().wait(2, 0));
            Cases.refused("16 of 16", 0, Cases::fullRunning, x -> x.wait(16, 0));
        });
        Cases.sentence("Promise 19: 0: UNKNOWN: the GIFT", () -> {
            for (int g : new int[] {-1, 1, 6, LEAST, GREATEST}) {
                Cases.refused("of " + g, 0, Cases::running, x -> x.wait(1, g));
            }
            due("of the last", -5, Cases.running().wait(1, 0));
            Cases.refused("6 of 6", 0, Cases::fullRunning, x -> x.wait(0, 6));
            Cases.refused("-1 of 6", 0, Cases::fullRunning, x -> x.wait(12, -1));
            due("which would be these", -2, Cases.full().wait(1, 0));
            due("which would be these", -7, Cases.full().wait(11, 5));
            Cases.refused("no gifts", 0, () -> Cases.net(2), x -> x.wait(0, 0));
        });
        Cases.sentence("Promise 19: 0: STATE: not LIVELY", () -> {
            Cases.refused("torn", 0, Cases::torn, x -> x.wait(1, 0));
            TickPlans x = Cases.waiting();
            x.wish(0, 2, 0, 4);
            due("together, not lively", 0, x.wait(1, 0));
            x.tighten(2, 0, 5);
            due("lively", -5, x.wait(1, 0));
        });
    }
}
