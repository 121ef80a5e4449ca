import java.util.function.Consumer;

/** The boundary cases of runs: Terms, their fourth part, promises 20 to 28, and the 512 calls. */
public final class RunBoundsTest {
    private static final int UNKNOWN = Cases.UNKNOWN;
    private static final int OUTSIDE = Cases.OUTSIDE;
    private static final int STATE = Cases.STATE;
    private static final int NONE = Cases.NONE;
    private static final long FAR = Cases.FAR;
    private static final int LEAST = Cases.LEAST;
    private static final int GREATEST = Cases.GREATEST;

    public static void main(String[] args) {
        whenOneMay();
        whenOneIsLate();
        start();
        happen();
        goOn();
        idle();
        came();
        may();
        now();
        check();
        told();
        calls();
        Cases.end();
    }

    private static void due(String call, long want, long got) {
        Cases.due(call, want, got);
    }

    /** The tick becomes t by goOn, at each tick but the last with whoever MAY come. */
    private static void goOnTo(TickPlans x, int t) {
        for (int turns = 0; turns < 400 && x.now() < t; turns++) {
            x.goOn();
        }
        due("now", t, x.now());
    }

    private static void whenOneMay() {
        Cases.sentence("Terms: A RUN begins at tick 0; no MOMENT has come", RunBoundsTest::beginning);
        Cases.sentence("Terms: for each other MOMENT b, if E(it, b) is below 0, b has come", RunBoundsTest::othersFirst);
        Cases.sentence("Terms: t is not less than b's tick less E(it, b) (if that is not FAR)", RunBoundsTest::notEarlier);
        Cases.sentence("Terms: not more than b's tick and E(b, it), summed (if that is not FAR)", RunBoundsTest::notLater);
        Cases.sentence("Terms: for each GIFT g with W(it, g) below 0", RunBoundsTest::waitsBelowZero);
        Cases.sentence("Terms: g's end has come", RunBoundsTest::endHasCome);
        Cases.sentence("Terms: or g's beginning has, and t is not less than that one's tick less W(it, g)", RunBoundsTest::waitIsOver);
        Cases.sentence("Terms: a MOMENT MAY come by all of these only", RunBoundsTest::allOfThem);
    }

    private static void beginning() {
        TickPlans x = Cases.full();
        due("start", 1, x.start());
        due("now", 0, x.now());
        due("told", 0, x.told(3));
        for (int m = 0; m < 16; m++) {
            due("came", NONE, x.came(m));
        }
    }

    private static TickPlans twoLinked(int low, int high) {
        TickPlans x = Cases.net(2);
        x.wish(1, 0, low, high);
        x.start();
        return x;
    }

    private static void othersFirst() {
        due("E(0, 1) is 0", 1, twoLinked(0, 9).may(0));
        due("E(0, 1) is -1", 0, twoLinked(1, 9).may(0));
        due("E(0, 1) is 1", 1, twoLinked(-1, 9).may(0));
        due("E(1, 0) is 9", 1, twoLinked(1, 9).may(1));
        due("both at 0", 2, twoLinked(0, 9).goOn());
        due("one at 0", 1, twoLinked(1, 9).goOn());
        TickPlans x = Cases.net(2);
        x.gift(0, 1, 1, 1);
        x.start();
        due("what is given behind it does not matter", 1, x.may(0));
    }

    private static void notEarlier() {
        TickPlans x = Cases.net(2);
        x.wish(0, 1, 3, 9);
        x.start();
        x.goOn();
        goOnTo(x, 2);
        due("one tick early", 0, x.may(1));
        goOnTo(x, 3);
        due("at the tick", 1, x.may(1));
        TickPlans y = Cases.net(4);
        y.wish(1, 2, 4, 4);
        y.start();
        due("those that may at once", 3, y.goOn());
        due("FAR from the one that waits", FAR, y.edge(2, 0));
        goOnTo(y, 3);
        due("one tick early", 0, y.may(2));
        goOnTo(y, 4);
        due("FAR does not hold it", 1, y.may(2));
        TickPlans z = Cases.net(2);
        z.wish(0, 1, 100000, 100000);
        z.start();
        z.goOn();
        due("as long as can be", 99998, z.idle(99998));
        due("one tick early", 0, z.may(1));
        due("one more", 1, z.idle(1));
        due("at the tick", 1, z.may(1));
    }

    /** Beyond the last tick no RUN comes, for whoever MAY come does so: VariantsTest has that side. */
    private static void notLater() {
        TickPlans x = Cases.net(2);
        x.wish(0, 1, 3, 3);
        x.start();
        x.goOn();
        goOnTo(x, 3);
        due("at the only tick", 1, x.may(1));
        due("it comes", 1, x.goOn());
        due("kept", 1, x.check());
        TickPlans y = Cases.net(2);
        y.wish(0, 1, 0, 0);
        y.start();
        due("both at the only tick", 2, y.goOn());
        TickPlans z = Cases.waiting();
        z.tighten(1, 0, 0);
        z.start();
        z.goOn();
        goOnTo(z, 5);
        z.happen(1);
        due("at the end of the wait and of the wish", 1, z.may(2));
    }

    /** Without links but that of the GIFT and one: W(2, 0) is high less 5, E(2, 0) the same or high less 2. */
    private static TickPlans aheadOfEnd(int high) {
        TickPlans x = Cases.net(3);
        x.gift(0, 1, 2, 5);
        x.wish(2, 1, 0, high);
        x.start();
        return x;
    }

    private static void waitsBelowZero() {
        due("W is 0", 0, aheadOfEnd(5).wait(2, 0));
        due("it need not wait", 1, aheadOfEnd(5).may(2));
        due("W is -1", -1, aheadOfEnd(4).wait(2, 0));
        due("it has to", 0, aheadOfEnd(4).may(2));
        due("W is -3", -3, aheadOfEnd(2).wait(2, 0));
        due("E is not below 0", 0, aheadOfEnd(2).edge(2, 0));
        due("E is not below 0", 2, aheadOfEnd(2).edge(2, 1));
        due("the wait alone holds it", 0, aheadOfEnd(2).may(2));
    }

    private static void endHasCome() {
        TickPlans x = Cases.running();
        goOnTo(x, 2);
        due("it waits", 0, x.may(2));
        due("the end comes", 1, x.happen(1));
        due("no more", 1, x.may(2));
        TickPlans y = aheadOfEnd(2);
        y.goOn();
        goOnTo(y, 2);
        due("it waits", 0, y.may(2));
        due("the end comes", 1, y.happen(1));
        due("no more", 1, y.may(2));
    }

    private static void waitIsOver() {
        TickPlans x = aheadOfEnd(2);
        due("only the beginning comes", 1, x.goOn());
        goOnTo(x, 2);
        due("one tick early", 0, x.may(2));
        goOnTo(x, 3);
        due("at the tick", 1, x.may(2));
        TickPlans y = Cases.running();
        goOnTo(y, 4);
        due("one tick early", 0, y.may(2));
        goOnTo(y, 5);
        due("at the tick", 1, y.may(2));
        TickPlans z = Cases.net(4);
        z.wish(3, 0, 7, 7);
        z.gift(0, 1, 2, 5);
        z.wish(1, 2, 0, 2);
        z.start();
        due("3 comes", 1, z.goOn());
        due("till 0 may", 6, z.idle(100));
        due("0 comes at 7", 1, z.goOn());
        due("till the wait is over", 4, z.idle(100));
        due("that one's tick less W", 12, z.now());
        due("at the tick", 1, z.may(2));
    }

    private static void allOfThem() {
        TickPlans x = Cases.waiting();
        x.wish(0, 2, 4, 7);
        x.start();
        x.goOn();
        goOnTo(x, 2);
        due("the end comes", 1, x.happen(1));
        due("another link holds it", 0, x.may(2));
        goOnTo(x, 3);
        due("one tick early", 0, x.may(2));
        goOnTo(x, 4);
        due("at the tick", 1, x.may(2));
        due("it comes", 1, x.goOn());
        due("kept", 1, x.check());
    }

    private static void whenOneIsLate() {
        Cases.sentence("Terms: LATE: whose GIFT's beginning came more than high ticks ago", RunBoundsTest::moreThanHigh);
        Cases.sentence("Terms: LATE is a GIVEN one that has not come", RunBoundsTest::thatHasNotCome);
    }

    private static void moreThanHigh() {
        TickPlans x = Cases.chain(1);
        x.start();
        due("0 ticks ago", 1, x.goOn());
        due("1 tick ago", 0, x.goOn());
        due("2 ticks ago: not yet", 0, x.goOn());
        due("3 ticks ago", STATE, x.goOn());
        due("3 ticks ago", STATE, x.idle(0));
        due("it stays so", STATE, x.goOn());
        due("now", 3, x.now());
        TickPlans y = Cases.net(2);
        y.gift(0, 1, 1, 100000);
        y.start();
        y.goOn();
        due("to the last tick", 99999, y.idle(200000));
        due("not yet", 0, y.goOn());
        due("late", STATE, y.goOn());
    }

    private static void thatHasNotCome() {
        TickPlans x = Cases.chain(2);
        x.start();
        x.goOn();
        goOnTo(x, 2);
        due("at the last tick", 1, x.happen(1));
        due("not late", 0, x.goOn());
        due("not late, the next one is under way", 0, x.goOn());
        due("its last tick", 1, x.happen(2));
        goOnTo(x, 20);
        due("none is late", 0, x.goOn());
        TickPlans y = Cases.net(3);
        y.wish(2, 0, 9, 9);
        y.gift(0, 1, 1, 1);
        y.start();
        y.goOn();
        due("the beginning has not come", 8, y.idle(100));
        due("it comes", 1, y.goOn());
        due("its last tick", 0, y.goOn());
        due("late", STATE, y.goOn());
    }

    private static void start() {
        Cases.sentence("Promise 20: A RUN begins: 1", () -> {
            due("nothing", 1, new TickPlans().start());
            due("no links", 1, Cases.net(16).start());
            due("a full net", 1, Cases.full().start());
            TickPlans x = Cases.running();
            x.happen(1);
            due("anew", 1, x.start());
            due("now", 0, x.now());
            due("came", NONE, x.came(0));
            due("told", 0, x.told(3));
            TickPlans y = Cases.late();
            due("behind one that was late", 1, y.start());
            due("it goes on", 1, y.goOn());
        });
        Cases.sentence("Promise 20: STATE: the net is not LIVELY", () -> {
            Cases.refused("torn", STATE, Cases::torn, x -> x.start());
            TickPlans x = Cases.waiting();
            x.wish(0, 2, 0, 4);
            due("together, not lively", STATE, x.start());
            due("no run", STATE, x.now());
            x.tighten(2, 0, 5);
            due("lively", 1, x.start());
        });
        Cases.sentence("Promise 20: A change of the net ends a RUN: there is none then", RunBoundsTest::changes);
        Cases.sentence("Promise 20: what is no change of the net leaves the RUN", RunBoundsTest::noChanges);
    }

    private static void endsRun(String call, Consumer<TickPlans> change) {
        TickPlans x = Cases.running();
        change.accept(x);
        due(call + ": now", STATE, x.now());
        due(call + ": goOn", STATE, x.goOn());
        due(call + ": idle", STATE, x.idle(1));
        due(call + ": came", STATE, x.came(0));
        due(call + ": may", STATE, x.may(0));
        due(call + ": happen", STATE, x.happen(1));
        due(call + ": check", STATE, x.check());
        due(call + ": told", 0, x.told(3));
    }

    private static void changes() {
        endsRun("moments", x -> due("moments", 4, x.moments(1)));
        endsRun("wish", x -> due("wish", 2, x.wish(0, 1, 0, 9)));
        endsRun("gift", x -> due("gift", 2, x.gift(0, 2, 1, 1)));
        endsRun("undo", x -> due("undo", 1, x.undo()));
        endsRun("tighten", x -> due("tighten", 1, x.tighten(1, 0, 3)));
        endsRun("read", x -> due("read", 1, Cases.readText(x, "m 3;g 0 1 2 5;")));
        endsRun("read of a net without links", x -> due("read", 0, Cases.readText(x, "m 3;")));
        endsAnyRun("the first wish", x -> due("wish", 0, x.wish(0, 1, 0, 0)));
        endsAnyRun("the first gift", x -> due("gift", 0, x.gift(0, 1, 1, 1)));
        endsAnyRun("read of nothing", x -> due("read", 0, x.read()));
        TickPlans y = Cases.net(2);
        y.wish(0, 1, 0, 0);
        y.start();
        due("the last link goes", 0, y.undo());
        due("no run", STATE, y.now());
        due("another one can begin", 1, y.start());
        due("now", 0, y.now());
    }

    /** A RUN of a net without links. */
    private static void endsAnyRun(String call, Consumer<TickPlans> change) {
        TickPlans x = Cases.net(2);
        x.start();
        change.accept(x);
        due(call + ": now", STATE, x.now());
        due(call + ": told", 0, x.told(3));
    }

    private static void noChanges() {
        TickPlans x = Cases.running();
        x.feed(0, 0, 0, 0, 0);
        x.trim(3);
        x.link(0, 0);
        x.together();
        x.distance(0, 1);
        x.strong();
        x.weak();
        x.spoiler(0);
        x.lively();
        x.rounds();
        x.edge(0, 1);
        x.wait(0, 0);
        due("now", 1, x.now());
        due("came", 0, x.came(0));
        due("a text that is wrong", -23, x.read());
        due("now", 1, x.now());
        due("told", 1, x.told(3));
    }

    private static void happen() {
        Cases.sentence("Promise 21: A GIVEN MOMENT comes now: 1", () -> {
            TickPlans x = Cases.running();
            goOnTo(x, 3);
            due("happen", 1, x.happen(1));
            due("now", 3, x.came(1));
            due("the tick stays", 3, x.now());
            due("told", 2, x.told(3));
            TickPlans y = Cases.fullRunning();
            due("the last of six", 1, y.happen(11));
        });
        Cases.sentence("Promise 21: UNKNOWN", () -> {
            for (int m : new int[] {-1, 3, 16, LEAST, GREATEST}) {
                Cases.refused("happen " + m, UNKNOWN, Cases::running, x -> x.happen(m));
            }
            Cases.refused("16 of 16", UNKNOWN, Cases::fullRunning, x -> x.happen(16));
        });
        Cases.sentence("Promise 21: STATE: no RUN", () -> {
            Cases.refused("happen", STATE, Cases::waiting, x -> x.happen(1));
            Cases.refused("a torn net", STATE, Cases::torn, x -> x.happen(1));
            Cases.refused("in a RUN that a change ended", STATE, RunBoundsTest::ended, x -> x.happen(1));
        });
        Cases.sentence("Promise 21: STATE: it is not GIVEN", () -> {
            Cases.refused("one that is chosen", STATE, Cases::running, x -> x.happen(2));
            Cases.refused("one that came", STATE, Cases::running, x -> x.happen(0));
            TickPlans x = Cases.net(1);
            x.start();
            due("one that may come", STATE, x.happen(0));
        });
        Cases.sentence("Promise 21: STATE: it has come", () -> Cases.refused("again", STATE, () -> ticksBehind(3, true), x -> x.happen(1)));
        Cases.sentence("Promise 21: STATE: its GIFT's beginning has not", RunBoundsTest::beginningHasNot);
        Cases.sentence("Promise 21: STATE: or not so many ticks ago", RunBoundsTest::notSoManyTicks);
        Cases.sentence("Promise 21: UNKNOWN; STATE, in this order", () ->
                Cases.refused("UNKNOWN ahead of no RUN", UNKNOWN, Cases::waiting, x -> x.happen(3)));
    }

    /** The waiting net's RUN so many ticks behind its first MOMENT, with the GIVEN one or not. */
    private static TickPlans ticksBehind(int ticks, boolean given) {
        TickPlans x = Cases.waiting();
        x.start();
        for (int t = 0; t < ticks; t++) {
            x.goOn();
        }
        if (given) {
            x.happen(1);
        }
        return x;
    }

    /** Without its last change, the GIVEN one could come, and the other one would have to wait. */
    private static TickPlans ended() {
        TickPlans x = ticksBehind(3, false);
        x.tighten(1, 0, 3);
        return x;
    }

    private static TickPlans aheadOfBeginning() {
        TickPlans x = Cases.chain(2);
        x.start();
        x.goOn();
        return x;
    }

    private static void beginningHasNot() {
        Cases.refused("at tick 0", STATE, () -> ticksBehind(0, false), x -> x.happen(1));
        Cases.refused("behind one that is GIVEN", STATE, RunBoundsTest::aheadOfBeginning, x -> x.happen(2));
        TickPlans x = aheadOfBeginning();
        x.happen(1);
        x.goOn();
        due("once it has", 1, x.happen(2));
        TickPlans y = Cases.net(3);
        y.wish(2, 0, 20, 20);
        y.gift(0, 1, 1, 100000);
        y.start();
        for (int tick = 0; tick <= 20; tick++) {
            due("any length would do, but for none, tick " + tick, STATE, y.happen(1));
            y.goOn();
        }
        due("a tick behind the beginning", 1, y.happen(1));
    }

    private static void notSoManyTicks() {
        for (int ticks = 0; ticks <= 6; ticks++) {
            int behind = ticks;
            if (ticks >= 2 && ticks <= 5) {
                due(ticks + " ticks ago", 1, ticksBehind(ticks, false).happen(1));
            } else {
                Cases.refused(ticks + " ticks ago", STATE, () -> ticksBehind(behind, false), x -> x.happen(1));
            }
        }
        TickPlans x = aheadOfBeginning();
        due("the first", 1, x.happen(1));
        due("0 ticks ago", STATE, x.happen(2));
        TickPlans y = Cases.net(3);
        y.gift(0, 1, 1, 1);
        y.gift(0, 2, 1, 9);
        y.start();
        y.goOn();
        y.goOn();
        due("one is late", STATE, y.goOn());
        due("it comes no more", STATE, y.happen(1));
        due("another one does", 1, y.happen(2));
    }

    private static void goOn() {
        Cases.sentence("Promise 22: The MOMENT with the least number that MAY come does, and so on, till none MAY", () -> {
            TickPlans x = new TickPlans();
            x.start();
            due("nothing there", 0, x.goOn());
            TickPlans y = Cases.net(16);
            y.start();
            due("all sixteen", 16, y.goOn());
            due("none is left", 0, y.goOn());
            due("told", 16, y.told(3));
            TickPlans z = Cases.full();
            z.start();
            due("all but the six that are GIVEN", 10, z.goOn());
            due("none MAY", 0, z.goOn());
        });
        Cases.sentence("Promise 22: then the tick is one more: how many came", () -> {
            TickPlans x = Cases.running();
            due("now", 1, x.now());
            due("none came", 0, x.goOn());
            due("now", 2, x.now());
            x.happen(1);
            due("what happened is not counted", 1, x.goOn());
            due("now", 3, x.now());
            due("at the tick ahead", 2, x.came(2));
        });
        Cases.sentence("Promise 22: STATE: no RUN", () -> {
            Cases.refused("goOn", STATE, Cases::waiting, x -> x.goOn());
            Cases.refused("a torn net", STATE, Cases::torn, x -> x.goOn());
        });
        Cases.sentence("Promise 22: STATE: one is LATE", () -> {
            Cases.refused("goOn", STATE, Cases::late, x -> x.goOn());
            due("one tick ahead of it", 1, ticksBehind(5, false).goOn());
        });
    }

    private static void idle() {
        Cases.sentence("Promise 23: The tick is one more, n times at most (0 to 200000)", RunBoundsTest::idleTimes);
        Cases.sentence("Promise 23: as long as no MOMENT MAY come at it", RunBoundsTest::idleTillOneMay);
        Cases.sentence("Promise 23: and none would be LATE behind it", RunBoundsTest::idleTillLate);
        Cases.sentence("Promise 23: OUTSIDE", () -> {
            for (int n : new int[] {-1, 200001, LEAST, GREATEST}) {
                Cases.refused("idle " + n, OUTSIDE, Cases::running, x -> x.idle(n));
            }
        });
        Cases.sentence("Promise 23: STATE: no RUN", () -> {
            Cases.refused("idle 0", STATE, Cases::waiting, x -> x.idle(0));
            Cases.refused("idle 200000", STATE, Cases::torn, x -> x.idle(200000));
        });
        Cases.sentence("Promise 23: STATE: one is LATE", () -> {
            Cases.refused("idle 0", STATE, Cases::late, x -> x.idle(0));
            Cases.refused("idle 1", STATE, Cases::late, x -> x.idle(1));
            due("one tick ahead of it", 0, ticksBehind(5, false).idle(0));
        });
        Cases.sentence("Promise 23: OUTSIDE; STATE, in this order", () -> {
            Cases.refused("OUTSIDE ahead of no RUN", OUTSIDE, Cases::waiting, x -> x.idle(-1));
            Cases.refused("OUTSIDE ahead of no RUN", OUTSIDE, Cases::waiting, x -> x.idle(200001));
            Cases.refused("OUTSIDE ahead of LATE", OUTSIDE, Cases::late, x -> x.idle(-1));
            Cases.refused("OUTSIDE ahead of LATE", OUTSIDE, Cases::late, x -> x.idle(200001));
        });
    }

    private static void idleTimes() {
        TickPlans x = new TickPlans();
        x.start();
        due("0 times", 0, x.idle(0));
        due("now", 0, x.now());
        due("once", 1, x.idle(1));
        due("all times", 200000, x.idle(200000));
        due("again", 200000, x.idle(200000));
        due("now", 400001, x.now());
        TickPlans y = Cases.running();
        due("fewer than it could", 3, y.idle(3));
        due("now", 4, y.now());
        due("as many as it could", 1, y.idle(1));
        due("now", 5, y.now());
        TickPlans z = Cases.running();
        due("more than it could", 4, z.idle(5));
        due("now", 5, z.now());
    }

    private static void idleTillOneMay() {
        TickPlans x = Cases.waiting();
        x.start();
        due("one MAY at once", 0, x.idle(1));
        due("now", 0, x.now());
        TickPlans y = Cases.net(3);
        y.wish(0, 1, 3, 9);
        y.wish(0, 2, 8, 9);
        y.start();
        y.goOn();
        due("till the first of two MAY", 2, y.idle(200000));
        due("now", 3, y.now());
        due("it MAY", 1, y.may(1));
        due("the other MAY not", 0, y.may(2));
        due("no further", 0, y.idle(1));
        y.goOn();
        due("till the second MAY", 4, y.idle(200000));
        due("now", 8, y.now());
        y.goOn();
        due("all have come", 200000, y.idle(200000));
        TickPlans z = ticksBehind(2, true);
        due("what happened lets one come", 0, z.idle(9));
    }

    private static void idleTillLate() {
        TickPlans x = Cases.chain(1);
        x.start();
        x.goOn();
        due("to its last tick", 1, x.idle(200000));
        due("now", 2, x.now());
        due("no further", 0, x.idle(1));
        due("it can still come", 1, x.happen(1));
        due("then on and on", 200000, x.idle(200000));
        TickPlans y = Cases.net(4);
        y.gift(0, 1, 1, 9);
        y.gift(2, 3, 1, 4);
        y.start();
        y.goOn();
        due("to the last tick of the first one that would be", 3, y.idle(200000));
        y.happen(3);
        due("to the other's last tick", 5, y.idle(200000));
        due("now", 9, y.now());
        TickPlans z = Cases.net(2);
        z.gift(0, 1, 1, 1);
        z.start();
        z.goOn();
        due("at its last tick at once", 0, z.idle(1));
    }

    private static void came() {
        Cases.sentence("Promise 24: When a MOMENT came; NONE", () -> {
            TickPlans x = Cases.running();
            due("at tick 0", 0, x.came(0));
            due("not yet", NONE, x.came(1));
            due("not yet", NONE, x.came(2));
            TickPlans y = Cases.net(16);
            for (int m = 0; m < 15; m++) {
                y.wish(m, m + 1, 100000, 100000);
            }
            y.start();
            for (int m = 0; m < 16; m++) {
                due("the next one", 1, y.goOn());
                due("its tick", 100000 * m, y.came(m));
                y.idle(200000);
            }
            due("kept", 1, y.check());
        });
        Cases.sentence("Promise 24: UNKNOWN", () -> {
            for (int m : new int[] {-1, 3, 16, LEAST, GREATEST}) {
                Cases.refused("came " + m, UNKNOWN, Cases::running, x -> x.came(m));
            }
            Cases.refused("16 of 16", UNKNOWN, Cases::fullRunning, x -> x.came(16));
        });
        Cases.sentence("Promise 24: STATE: no RUN", () -> Cases.refused("came", STATE, Cases::waiting, x -> x.came(0)));
        Cases.sentence("Promise 24: UNKNOWN; STATE, in this order", () ->
                Cases.refused("UNKNOWN ahead of no RUN", UNKNOWN, Cases::waiting, x -> x.came(3)));
    }

    private static void may() {
        Cases.sentence("Promise 25: Whether a MOMENT that is not GIVEN, has not come, MAY come now: 1, 0", () -> {
            due("tick 4", 0, ticksBehind(4, false).may(2));
            due("tick 5", 1, ticksBehind(5, false).may(2));
            Cases.refused("asking brings none", 1, () -> ticksBehind(5, false), x -> x.may(2));
            due("though one is LATE", 1, mayWhileLate().may(3));
        });
        Cases.sentence("Promise 25: UNKNOWN", () -> {
            for (int m : new int[] {-1, 3, 16, LEAST, GREATEST}) {
                Cases.refused("may " + m, UNKNOWN, Cases::running, x -> x.may(m));
            }
            Cases.refused("16 of 16", UNKNOWN, Cases::fullRunning, x -> x.may(16));
        });
        Cases.sentence("Promise 25: STATE: no RUN", () -> {
            Cases.refused("may", STATE, Cases::waiting, x -> x.may(0));
            Cases.refused("in a RUN that a change ended", STATE, RunBoundsTest::ended, x -> x.may(2));
        });
        Cases.sentence("Promise 25: STATE: it is GIVEN", () -> Cases.refused("may", STATE, Cases::running, x -> x.may(1)));
        Cases.sentence("Promise 25: STATE: has come", () -> {
            Cases.refused("may", STATE, Cases::running, x -> x.may(0));
            Cases.refused("GIVEN, has come", STATE, () -> ticksBehind(3, true), x -> x.may(1));
        });
        Cases.sentence("Promise 25: UNKNOWN; STATE, in this order", () ->
                Cases.refused("UNKNOWN ahead of no RUN", UNKNOWN, Cases::waiting, x -> x.may(3)));
    }

    /** At tick 2 GIFT 0 is LATE, and MOMENT 3 MAY come. */
    private static TickPlans mayWhileLate() {
        TickPlans x = Cases.net(4);
        x.gift(0, 1, 1, 1);
        x.wish(2, 3, 2, 9);
        x.start();
        x.goOn();
        x.goOn();
        return x;
    }

    private static void now() {
        Cases.sentence("Promise 26: The tick", () -> {
            due("at first", 0, ticksBehind(0, false).now());
            due("one more", 1, ticksBehind(1, false).now());
            due("where one is late", 6, Cases.late().now());
        });
        Cases.sentence("Promise 26: STATE: no RUN", () -> {
            Cases.refused("now", STATE, Cases::waiting, x -> x.now());
            Cases.refused("a torn net", STATE, Cases::torn, x -> x.now());
        });
    }

    private static void check() {
        Cases.sentence("Promise 27: Whether all have come, and all LINKS are kept: 1", () -> {
            TickPlans x = new TickPlans();
            x.start();
            due("nothing there", 1, x.check());
            TickPlans y = Cases.net(16);
            y.start();
            y.goOn();
            due("all sixteen", 1, y.check());
            TickPlans z = Cases.fullRunning();
            for (int g = 0; g < 6; g++) {
                due("one is missing", 0, z.check());
                due("at its low", 1, z.happen(2 * g + 1));
            }
            due("all sixteen, sixty links", 1, z.check());
            TickPlans w = Cases.chain(1);
            w.start();
            goOnTo(w, 2);
            w.happen(1);
            due("at its high", 1, w.check());
        });
        Cases.sentence("Promise 27: 0 not all have come", () -> {
            due("none", 0, ticksBehind(0, false).check());
            due("one of three", 0, ticksBehind(1, false).check());
            due("all but one", 0, ticksBehind(3, true).check());
            due("all but a late one", 0, Cases.late().check());
            TickPlans x = ticksBehind(3, true);
            x.goOn();
            due("all", 1, x.check());
        });
        Cases.sentence("Promise 27: STATE: no RUN", () -> {
            Cases.refused("check", STATE, Cases::waiting, x -> x.check());
            Cases.refused("a torn net", STATE, Cases::torn, x -> x.check());
        });
    }

    private static void told() {
        Cases.sentence("Promise 28: How many: 0 MOMENTS, 1 LINKS, 2 GIFTS, 4 bytes of THE TAPE", () -> {
            int[] full = {16, 60, 6, 10, 14};
            int[] none = {0, 0, 0, 0, 0};
            for (int what = 0; what < 5; what++) {
                due("told " + what + " of nothing", none[what], new TickPlans().told(what));
                due("told " + what + " of all", full[what], Cases.fullRunning().told(what));
            }
            TickPlans x = new TickPlans();
            Cases.feedText(x, Cases.repeated(" ", 1000));
            due("a full tape", 1000, x.told(4));
        });
        Cases.sentence("Promise 28: 3 MOMENTS that came in the RUN (0: none)", () -> {
            due("no RUN", 0, Cases.waiting().told(3));
            due("none came", 0, ticksBehind(0, false).told(3));
            due("one came", 1, ticksBehind(1, false).told(3));
            TickPlans x = Cases.running();
            x.moments(1);
            due("the RUN ended", 0, x.told(3));
            x.start();
            due("a new one", 0, x.told(3));
        });
        Cases.sentence("Promise 28: OUTSIDE", () -> {
            for (int what : new int[] {-1, 5, LEAST, GREATEST}) {
                Cases.refused("told " + what, OUTSIDE, Cases::running, x -> x.told(what));
            }
        });
    }

    private static void calls() {
        Cases.sentence("What it is: An object is used for at most 512 calls", () -> {
            TickPlans x = new TickPlans();
            due("call 1", 1, x.start());
            for (int call = 2; call < 512; call++) {
                due("call " + call, 200000, x.idle(200000));
            }
            due("call 512", 102000000, x.now());
            TickPlans y = Cases.running();
            // It has had 8 calls.
            for (int call = 9; call < 512; call++) {
                due("call " + call, call % 2 == 0 ? 1 : 2, call % 2 == 0 ? y.lively() : y.rounds());
            }
            due("call 512", 0, y.came(0));
        });
        Cases.sentence("Not promised: nothing about an object after its 512th call (but it throws nothing)", RunBoundsTest::oddCalls);
    }

    /** LANGUAGE.md, rule 7: no call may ever throw, for any arguments in any state. */
    private static void oddCalls() {
        int[] odd = {0, 1, -1, 2, 5, 6, 15, 16, 17, 59, 60, 1000, 1001, 100000, 100001, -100001, 200000, 200001, LEAST, GREATEST};
        int[] lastOnes = {0, 5, 10, 15};
        int calls = 0;
        for (int made = 0; made < 6; made++) {
            TickPlans x = made == 0 ? new TickPlans() : made == 1 ? Cases.running() : made == 2 ? Cases.late()
                    : made == 3 ? Cases.torn() : made == 4 ? Cases.fullRunning() : Cases.full();
            for (int a : odd) {
                for (int b : odd) {
                    oddCallsOf(x, a, b, lastOnes[calls % 4]);
                    calls++;
                }
            }
        }
        due("calls that came back", 2400, calls);
    }

    private static void oddCallsOf(TickPlans x, int a, int b, int c) {
        x.link(a, b);
        x.distance(a, b);
        x.edge(a, b);
        x.wait(a, b);
        x.spoiler(a);
        x.happen(a);
        x.came(a);
        x.may(a);
        x.told(a);
        x.idle(a);
        x.goOn();
        x.check();
        x.now();
        x.tighten(a, b, c);
        x.wish(a, b, -c, c);
        x.gift(a, b, c, c);
        x.moments(a);
        x.feed(a, b, c, -a, -b);
        x.trim(a);
        x.start();
        x.together();
        x.strong();
        x.weak();
        x.lively();
        x.rounds();
        if (b == 1001) {
            x.read();
        }
        if (b == 59) {
            x.undo();
        }
    }
}
