import java.util.ArrayList;
import java.util.List;
import java.util.function.Function;
import java.util.function.Supplier;
import java.util.function.ToLongFunction;

/** What the tests of boundary cases share: sentences of the document, answers that are due, nets, refusals. */
final class Cases {
    static final int UNKNOWN = -11;
    static final int OUTSIDE = -12;
    static final int STATE = -13;
    static final int FULL = -14;
    static final int NONE = -9;
    static final long FAR = 4611686018427387904L;
    static final int LEAST = Integer.MIN_VALUE;
    static final int GREATEST = Integer.MAX_VALUE;

    /** Apart, so that no object gets more than the 512 calls for which it answers. */
    private static final List<Function<TickPlans, List<Long>>> LOOKS =
            List.of(Cases::lookAtNet, Cases::lookAtChoices, Cases::lookAtWaits, Cases::lookAtRun, Cases::lookAtTape);

    private static String words = "";
    private static int sentences = 0;
    private static int answers = 0;
    private static int wrong = 0;

    private Cases() {
    }

    /** A sentence of the document that names a boundary case, with the test of it. */
    static void sentence(String quoted, Runnable test) {
        words = quoted;
        sentences++;
        int before = answers;
        test.run();
        if (answers == before) {
            wrong++;
            System.out.println("[" + words + "] has no test");
        }
    }

    static void due(String call, long want, long got) {
        answers++;
        if (got != want) {
            wrong++;
            System.out.println("[" + words + "] " + call + " answered " + got + ", due is " + want);
        }
    }

    /** The call is refused so, and changes nothing: behind it the object answers as one that never got it. */
    static void refused(String call, long want, Supplier<TickPlans> made, ToLongFunction<TickPlans> asked) {
        for (int look = 0; look < LOOKS.size(); look++) {
            TickPlans x = made.get();
            due(call, want, asked.applyAsLong(x));
            List<Long> with = LOOKS.get(look).apply(x);
            List<Long> without = LOOKS.get(look).apply(made.get());
            if (!with.equals(without)) {
                wrong++;
                System.out.println("[" + words + "] " + call + " changed something (look " + look + "): " + without + " became " + with);
            }
        }
    }

    static void end() {
        System.out.println(wrong == 0 ? sentences + " sentences hold, " + answers + " answers are as due"
                : wrong + " answers are not as due");
        if (wrong != 0) {
            System.exit(1);
        }
    }

    private static List<Long> lookAtNet(TickPlans x) {
        List<Long> seen = new ArrayList<>();
        for (int what = 0; what < 5; what++) {
            seen.add((long) x.told(what));
        }
        for (int l = 0; l < x.told(1); l++) {
            for (int what = 0; what < 5; what++) {
                seen.add((long) x.link(l, what));
            }
        }
        return seen;
    }

    private static List<Long> lookAtChoices(TickPlans x) {
        List<Long> seen = new ArrayList<>();
        seen.add((long) x.together());
        seen.add((long) x.strong());
        seen.add((long) x.weak());
        int gifts = x.told(2);
        for (int g = 0; g < gifts; g++) {
            seen.add((long) x.spoiler(g));
        }
        int moments = x.told(0);
        for (int a = 0; a < moments; a++) {
            for (int b = 0; b < moments; b++) {
                seen.add(x.distance(a, b));
            }
        }
        return seen;
    }

    private static List<Long> lookAtWaits(TickPlans x) {
        List<Long> seen = new ArrayList<>();
        seen.add((long) x.lively());
        seen.add((long) x.rounds());
        int moments = x.told(0);
        int gifts = x.told(2);
        for (int a = 0; a < moments; a++) {
            for (int b = 0; b < moments; b++) {
                seen.add(x.edge(a, b));
            }
            for (int g = 0; g < gifts; g++) {
                seen.add(x.wait(a, g));
            }
        }
        return seen;
    }

    private static List<Long> lookAtRun(TickPlans x) {
        List<Long> seen = new ArrayList<>();
        int moments = x.told(0);
        for (int turn = 0; turn < 3; turn++) {
            seen.add((long) x.now());
            seen.add((long) x.check());
            seen.add((long) x.told(3));
            for (int m = 0; m < moments; m++) {
                seen.add((long) x.came(m));
                seen.add((long) x.may(m));
                seen.add((long) (turn > 0 ? x.happen(m) : 0));
            }
            seen.add((long) x.goOn());
            seen.add((long) x.idle(turn));
        }
        return seen;
    }

    /** What is on THE TAPE shows when it is read. */
    private static List<Long> lookAtTape(TickPlans x) {
        List<Long> seen = new ArrayList<>();
        seen.add((long) x.told(4));
        seen.add((long) x.read());
        seen.addAll(lookAtNet(x));
        return seen;
    }

    static TickPlans net(int moments) {
        TickPlans x = new TickPlans();
        if (moments > 0) {
            x.moments(moments);
        }
        return x;
    }

    /** GIFT 0 from 0 to 1 (2 to 5); WISH from 1 to 2 (0 to 2): MOMENT 2 waits for the GIFT. */
    static TickPlans waiting() {
        TickPlans x = net(3);
        x.gift(0, 1, 2, 5);
        x.wish(1, 2, 0, 2);
        return x;
    }

    /** The same with a RUN in which MOMENT 0 has come, and a text on THE TAPE. */
    static TickPlans running() {
        TickPlans x = waiting();
        feedText(x, "m 2;w 0 1 3 4;");
        x.start();
        x.goOn();
        return x;
    }

    /** GIFT 0 is LATE at tick 6. */
    static TickPlans late() {
        TickPlans x = running();
        x.idle(4);
        x.goOn();
        return x;
    }

    /** Two WISHES that leave no times. */
    static TickPlans torn() {
        TickPlans x = waiting();
        x.wish(0, 2, -5, -5);
        return x;
    }

    /** 16 MOMENTS, 60 LINKS; the last 6 are GIFTS from 0 to 1, 2 to 3 and so on; it is LIVELY. */
    static TickPlans full() {
        TickPlans x = net(16);
        for (int l = 0; l < 54; l++) {
            x.wish(l % 16, (l + 1 + l / 16) % 16, -100000, 100000);
        }
        for (int g = 0; g < 6; g++) {
            x.gift(2 * g, 2 * g + 1, 1, 2 + g);
        }
        return x;
    }

    static TickPlans fullRunning() {
        TickPlans x = full();
        feedText(x, "m 3;g 2 1 3 4;");
        x.start();
        x.goOn();
        return x;
    }

    /** A chain of GIFTS, each from 1 to 2 long: MOMENT m is GIVEN by the one ahead of it. */
    static TickPlans chain(int gifts) {
        TickPlans x = net(gifts + 1);
        for (int g = 0; g < gifts; g++) {
            x.gift(g, g + 1, 1, 2);
        }
        return x;
    }

    static void feedText(TickPlans x, String text) {
        int before = x.told(4);
        for (int i = 0; i < text.length(); i += 20) {
            int[] n = new int[5];
            for (int j = 0; j < 20; j++) {
                n[j / 4] = n[j / 4] << 8 | (i + j < text.length() ? text.charAt(i + j) & 255 : ' ');
            }
            x.feed(n[0], n[1], n[2], n[3], n[4]);
        }
        x.trim(before + text.length());
    }

    static int readText(TickPlans x, String text) {
        x.trim(0);
        feedText(x, text);
        return x.read();
    }

    static void right(String text, int links) {
        due("read of [" + text + "]", links, readText(new TickPlans(), text));
    }

    /** It is WRONG there; the net and the RUN stay, THE TAPE is empty. */
    static void wrongAt(String text, int place) {
        TickPlans x = running();
        due("read of [" + text + "]", -20 - place, readText(x, text));
        due("the tape behind [" + text + "]", 0, x.told(4));
        due("links behind [" + text + "]", 2, x.told(1));
        due("the run behind [" + text + "]", 1, x.now());
    }

    static String repeated(String part, int times) {
        return part.repeat(times);
    }
}
