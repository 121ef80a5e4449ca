import java.util.Arrays;

public final class TickPlans {
    public static final int UNKNOWN = -11;
    public static final int OUTSIDE = -12;
    public static final int STATE = -13;
    public static final int FULL = -14;
    public static final int NONE = -9;
    public static final long FAR = 4611686018427387904L;

    private static final int MOMENT_LIMIT = 16;
    private static final int LINK_LIMIT = 60;
    private static final int GIFT_LIMIT = 6;
    private static final int BOUND_LIMIT = 100000;
    private static final int TAPE_LIMIT = 1000;
    private static final int FEED_BYTES = 20;
    private static final int DIGIT_LIMIT = 6;
    private static final int ROUND_LIMIT = 400;
    private static final int IDLE_LIMIT = 200000;
    private static final int WRONG_BASE = -20;
    private static final long DEEPEST = -1000000000000L;

    private Net net;
    private Net spare;
    private final Tape tape;
    private final Choices choices;
    private final Waits waits;
    private final Run run;

    public TickPlans() {
        net = new Net();
        spare = new Net();
        tape = new Tape();
        choices = new Choices();
        waits = new Waits();
        run = new Run();
    }

    // ---- 1 nets

    public int moments(int n) {
        return afterChange(net.addMoments(n));
    }

    public int wish(int a, int b, int low, int high) {
        return afterChange(net.addWish(a, b, low, high));
    }

    public int gift(int a, int b, int low, int high) {
        return afterChange(net.addGift(a, b, low, high));
    }

    public int undo() {
        return afterChange(net.dropLastLink());
    }

    public int tighten(int link, int low, int high) {
        return afterChange(net.setBounds(link, low, high));
    }

    public int link(int l, int what) {
        return net.partOfLink(l, what);
    }

    public int feed(int a, int b, int c, int d, int e) {
        if (!tape.hasRoom()) {
            return FULL;
        }
        tape.addNumber(a);
        tape.addNumber(b);
        tape.addNumber(c);
        tape.addNumber(d);
        tape.addNumber(e);
        return tape.size();
    }

    public int trim(int n) {
        if (n < 0 || n > tape.size()) {
            return OUTSIDE;
        }
        tape.keepFirst(n);
        return n;
    }

    public int read() {
        spare.clear();
        boolean whole = tape.readInto(spare);
        int place = tape.place();
        tape.keepFirst(0);
        if (!whole) {
            return WRONG_BASE - place;
        }
        Net old = net;
        net = spare;
        spare = old;
        return afterChange(net.linkCount());
    }

    // ---- 2 what hangs together

    public int together() {
        return choices.hangsTogether(net) ? 1 : 0;
    }

    public long distance(int a, int b) {
        if (!net.hasMoment(a) || !net.hasMoment(b)) {
            return 0;
        }
        return choices.hangsTogether(net) ? choices.leastSum(a, b) : 0;
    }

    public int strong() {
        return choices.isStrong(net) ? 1 : 0;
    }

    public int weak() {
        return choices.firstSpoiled(net) == NONE ? 1 : 0;
    }

    public int spoiler(int g) {
        if (!net.hasGift(g)) {
            return UNKNOWN;
        }
        int spoiled = choices.firstSpoiled(net);
        return spoiled == NONE ? STATE : net.chosenLength(g, spoiled);
    }

    // ---- 3 waits

    public int lively() {
        return waits.isLively(net) ? 1 : 0;
    }

    public int rounds() {
        return waits.roundCount(net);
    }

    public long edge(int a, int b) {
        if (!net.hasMoment(a) || !net.hasMoment(b) || !waits.isLively(net)) {
            return 0;
        }
        return waits.edgeOf(a, b);
    }

    public long wait(int a, int g) {
        if (!net.hasMoment(a) || !net.hasGift(g) || !waits.isLively(net)) {
            return 0;
        }
        return waits.waitOf(a, g);
    }

    // ---- 4 runs

    public int start() {
        if (!waits.isLively(net)) {
            return STATE;
        }
        run.begin();
        return 1;
    }

    public int happen(int moment) {
        if (!net.hasMoment(moment)) {
            return UNKNOWN;
        }
        if (!run.isOn() || !run.canBeGiven(net, moment)) {
            return STATE;
        }
        run.letCome(moment);
        return 1;
    }

    public int goOn() {
        if (!run.isOn() || run.someoneIsLate(net)) {
            return STATE;
        }
        return run.letAllComeThenTick(net, waits);
    }

    public int idle(int n) {
        if (n < 0 || n > IDLE_LIMIT) {
            return OUTSIDE;
        }
        if (!run.isOn() || run.someoneIsLate(net)) {
            return STATE;
        }
        return run.passTicks(net, waits, n);
    }

    public int came(int moment) {
        if (!net.hasMoment(moment)) {
            return UNKNOWN;
        }
        return run.isOn() ? run.tickOf(moment) : STATE;
    }

    public int may(int moment) {
        if (!net.hasMoment(moment)) {
            return UNKNOWN;
        }
        if (!run.isOn() || !run.isOpen(net, moment)) {
            return STATE;
        }
        return run.canComeNow(net, waits, moment) ? 1 : 0;
    }

    public int now() {
        return run.isOn() ? run.currentTick() : STATE;
    }

    public int check() {
        if (!run.isOn()) {
            return STATE;
        }
        if (run.cameCount() < net.momentCount()) {
            return 0;
        }
        int broken = run.firstBrokenLink(net);
        return broken == NONE ? 1 : WRONG_BASE - broken;
    }

    public int told(int what) {
        switch (what) {
            case 0:
                return net.momentCount();
            case 1:
                return net.linkCount();
            case 2:
                return net.giftCount();
            case 3:
                return run.isOn() ? run.cameCount() : 0;
            case 4:
                return tape.size();
            default:
                return OUTSIDE;
        }
    }

    // Refusals are below 0 and leave the net, and so the RUN, as they are.
    private int afterChange(int answer) {
        if (answer >= 0) {
            choices.forget();
            waits.forget();
            run.end();
        }
        return answer;
    }

    /** MOMENTS and LINKS, with the refusals of the calls that change them. */
    private static final class Net {
        private int moments;
        private int links;
        private int gifts;
        private final int[] from = new int[LINK_LIMIT];
        private final int[] to = new int[LINK_LIMIT];
        private final int[] low = new int[LINK_LIMIT];
        private final int[] high = new int[LINK_LIMIT];
        private final int[] giftOfLink = new int[LINK_LIMIT];
        private final int[] linkOfGift = new int[GIFT_LIMIT];

        void clear() {
            moments = 0;
            links = 0;
            gifts = 0;
        }

        int momentCount() {
            return moments;
        }

        int linkCount() {
            return links;
        }

        int giftCount() {
            return gifts;
        }

        boolean hasMoment(int m) {
            return m >= 0 && m < moments;
        }

        boolean hasLink(int l) {
            return l >= 0 && l < links;
        }

        boolean hasGift(int g) {
            return g >= 0 && g < gifts;
        }

        boolean isGift(int l) {
            return giftOfLink[l] != NONE;
        }

        int linkFrom(int l) {
            return from[l];
        }

        int linkTo(int l) {
            return to[l];
        }

        int linkLow(int l) {
            return low[l];
        }

        int linkHigh(int l) {
            return high[l];
        }

        int giftFrom(int g) {
            return from[linkOfGift[g]];
        }

        int giftTo(int g) {
            return to[linkOfGift[g]];
        }

        int giftLow(int g) {
            return low[linkOfGift[g]];
        }

        int giftHigh(int g) {
            return high[linkOfGift[g]];
        }

        /** The length of GIFT g in the choice of lows and highs with this number. */
        int chosenLength(int g, int choice) {
            return (choice >> g & 1) == 1 ? giftHigh(g) : giftLow(g);
        }

        /** The GIFT that ends at a MOMENT, or NONE. */
        int giftInto(int m) {
            for (int g = 0; g < gifts; g++) {
                if (to[linkOfGift[g]] == m) {
                    return g;
                }
            }
            return NONE;
        }

        boolean isGiven(int m) {
            return giftInto(m) != NONE;
        }

        int addMoments(int n) {
            if (n < 1 || n > MOMENT_LIMIT) {
                return OUTSIDE;
            }
            if (moments + n > MOMENT_LIMIT) {
                return FULL;
            }
            moments += n;
            return moments;
        }

        int addWish(int a, int b, int least, int most) {
            int refusal = refuseLink(a, b, least, most, -BOUND_LIMIT);
            if (refusal != 0) {
                return refusal;
            }
            if (links >= LINK_LIMIT) {
                return FULL;
            }
            return append(a, b, least, most, NONE);
        }

        int addGift(int a, int b, int least, int most) {
            int refusal = refuseLink(a, b, least, most, 1);
            if (refusal != 0) {
                return refusal;
            }
            if (isGiven(b) || comesFrom(a, b)) {
                return STATE;
            }
            if (links >= LINK_LIMIT || gifts >= GIFT_LIMIT) {
                return FULL;
            }
            linkOfGift[gifts] = links;
            gifts++;
            return append(a, b, least, most, gifts - 1);
        }

        int dropLastLink() {
            if (links == 0) {
                return STATE;
            }
            links--;
            if (isGift(links)) {
                gifts--;
            }
            return links;
        }

        int setBounds(int l, int least, int most) {
            if (!hasLink(l)) {
                return UNKNOWN;
            }
            if (!fits(least, most, isGift(l) ? 1 : -BOUND_LIMIT)) {
                return OUTSIDE;
            }
            low[l] = least;
            high[l] = most;
            return 1;
        }

        int partOfLink(int l, int what) {
            if (!hasLink(l)) {
                return UNKNOWN;
            }
            switch (what) {
                case 0:
                    return from[l];
                case 1:
                    return to[l];
                case 2:
                    return low[l];
                case 3:
                    return high[l];
                case 4:
                    return giftOfLink[l];
                default:
                    return OUTSIDE;
            }
        }

        private int append(int a, int b, int least, int most, int gift) {
            from[links] = a;
            to[links] = b;
            low[links] = least;
            high[links] = most;
            giftOfLink[links] = gift;
            links++;
            return links - 1;
        }

        private int refuseLink(int a, int b, int least, int most, int floor) {
            if (!hasMoment(a) || !hasMoment(b)) {
                return UNKNOWN;
            }
            if (a == b) {
                return STATE;
            }
            return fits(least, most, floor) ? 0 : OUTSIDE;
        }

        private static boolean fits(int least, int most, int floor) {
            return least >= floor && least <= most && most <= BOUND_LIMIT;
        }

        /** Whether going back along GIFTS from a MOMENT meets another one. */
        private boolean comesFrom(int m, int sought) {
            int at = m;
            for (int hops = 0; hops <= GIFT_LIMIT; hops++) {
                if (at == sought) {
                    return true;
                }
                int g = giftInto(at);
                if (g == NONE) {
                    return false;
                }
                at = giftFrom(g);
            }
            return true;
        }
    }

    /** The bytes of THE TAPE, and the reading of them as a text. */
    private static final class Tape {
        private final byte[] bytes = new byte[TAPE_LIMIT];
        private final int[] numbers = new int[4];
        private int size;
        private int place;
        private int number;

        int size() {
            return size;
        }

        int place() {
            return place;
        }

        boolean hasRoom() {
            return size + FEED_BYTES <= TAPE_LIMIT;
        }

        void addNumber(int n) {
            for (int shift = 24; shift >= 0 && size < TAPE_LIMIT; shift -= 8) {
                bytes[size] = (byte) (n >> shift);
                size++;
            }
        }

        void keepFirst(int n) {
            size = n;
        }

        /** Whether all of it is a text; if it is not, place() is where it is WRONG. */
        boolean readInto(Net target) {
            place = 0;
            for (int items = 0; items <= TAPE_LIMIT; items++) {
                skipBlanks();
                if (place >= size) {
                    return true;
                }
                if (!readItem(target)) {
                    return false;
                }
            }
            return false;
        }

        private boolean readItem(Net target) {
            int letter = bytes[place];
            int wanted = numbersBehind(letter);
            if (wanted == 0) {
                return false;
            }
            place++;
            for (int i = 0; i < wanted; i++) {
                skipBlanks();
                if (!takeNumber()) {
                    return false;
                }
                numbers[i] = number;
            }
            skipBlanks();
            if (place >= size || bytes[place] != ';' || putItem(target, letter) < 0) {
                return false;
            }
            place++;
            return true;
        }

        private static int numbersBehind(int letter) {
            if (letter == 'm') {
                return 1;
            }
            return letter == 'w' || letter == 'g' ? 4 : 0;
        }

        private int putItem(Net target, int letter) {
            if (letter == 'm') {
                return target.addMoments(numbers[0]);
            }
            if (letter == 'w') {
                return target.addWish(numbers[0], numbers[1], numbers[2], numbers[3]);
            }
            return target.addGift(numbers[0], numbers[1], numbers[2], numbers[3]);
        }

        private void skipBlanks() {
            while (place < size && (bytes[place] == 32 || bytes[place] == 10)) {
                place++;
            }
        }

        // The place stays at the token's first byte if it is no number.
        private boolean takeNumber() {
            boolean minus = place < size && bytes[place] == '-';
            int digits = 0;
            int value = 0;
            int at = minus ? place + 1 : place;
            while (at < size && bytes[at] >= '0' && bytes[at] <= '9') {
                if (digits < DIGIT_LIMIT) {
                    value = value * 10 + (bytes[at] - '0');
                }
                digits++;
                at++;
            }
            if (digits == 0 || digits > DIGIT_LIMIT) {
                return false;
            }
            place = at;
            number = minus ? -value : value;
            return true;
        }
    }

    /** Tables of steps between MOMENTS: the step from a to b stands at a * MOMENT_LIMIT + b. */
    private static final class Steps {
        static int cell(int a, int b) {
            return a * MOMENT_LIMIT + b;
        }

        static void clear(long[] steps) {
            Arrays.fill(steps, FAR);
            for (int m = 0; m < MOMENT_LIMIT; m++) {
                steps[cell(m, m)] = 0;
            }
        }

        static void lower(long[] steps, int a, int b, long step) {
            int cell = a * MOMENT_LIMIT + b;
            if (step < steps[cell]) {
                steps[cell] = step;
            }
        }

        static void lowerBothWays(long[] steps, int a, int b, long least, long most) {
            lower(steps, a, b, most);
            lower(steps, b, a, -least);
        }

        static void ofAllLinks(Net net, long[] steps) {
            clear(steps);
            for (int l = 0; l < net.linkCount(); l++) {
                lowerBothWays(steps, net.linkFrom(l), net.linkTo(l), net.linkLow(l), net.linkHigh(l));
            }
        }

        /**
         * Makes steps the least sums along ways; false if there is a RING. It stops at the first
         * MOMENT that can reach itself below 0, for beyond that the sums could outgrow a long.
         */
        static boolean close(long[] steps, int n) {
            if (someoneReachesItselfBelowZero(steps, n)) {
                return false;
            }
            for (int via = 0; via < n; via++) {
                for (int a = 0; a < n; a++) {
                    lowerRowVia(steps, n, a, via);
                }
                if (someoneReachesItselfBelowZero(steps, n)) {
                    return false;
                }
            }
            return true;
        }

        private static void lowerRowVia(long[] steps, int n, int a, int via) {
            int row = a * MOMENT_LIMIT;
            int viaRow = via * MOMENT_LIMIT;
            long first = steps[row + via];
            for (int b = 0; b < n; b++) {
                long second = steps[viaRow + b];
                if (first != FAR && second != FAR && first + second < steps[row + b]) {
                    steps[row + b] = first + second;
                }
            }
        }

        private static boolean someoneReachesItselfBelowZero(long[] steps, int n) {
            for (int m = 0; m < n; m++) {
                if (steps[m * MOMENT_LIMIT + m] < 0) {
                    return true;
                }
            }
            return false;
        }
    }

    /** HANGS TOGETHER, STRONG, WEAK. */
    private static final class Choices {
        private static final int ALL_LOW = 0;
        private static final int ALL_HIGH = (1 << GIFT_LIMIT) - 1;

        private final long[] steps = new long[MOMENT_LIMIT * MOMENT_LIMIT];
        private boolean spoiledIsKnown;
        private int spoiled;

        void forget() {
            spoiledIsKnown = false;
        }

        boolean hangsTogether(Net net) {
            Steps.ofAllLinks(net, steps);
            return Steps.close(steps, net.momentCount());
        }

        /** D(a, b), right behind a hangsTogether that was true. */
        long leastSum(int a, int b) {
            return steps[Steps.cell(a, b)];
        }

        /** Each WISH becomes one between MOMENTS that are not GIVEN, with the worst lengths taken off. */
        boolean isStrong(Net net) {
            Steps.clear(steps);
            for (int l = 0; l < net.linkCount(); l++) {
                if (!net.isGift(l)) {
                    putWorstWish(net, l);
                }
            }
            return Steps.close(steps, net.momentCount());
        }

        private void putWorstWish(Net net, int l) {
            int a = net.linkFrom(l);
            int b = net.linkTo(l);
            int behindA = giftsBehind(net, a);
            int behindB = giftsBehind(net, b);
            // GIFTS behind both ends have one length in both: they say nothing.
            int onlyA = behindA & ~behindB;
            int onlyB = behindB & ~behindA;
            long most = sumOfLengths(net, onlyB, ALL_HIGH) - sumOfLengths(net, onlyA, ALL_LOW);
            long least = sumOfLengths(net, onlyB, ALL_LOW) - sumOfLengths(net, onlyA, ALL_HIGH);
            Steps.lowerBothWays(steps, rootOf(net, a), rootOf(net, b),
                    net.linkLow(l) - least, net.linkHigh(l) - most);
        }

        private static int rootOf(Net net, int m) {
            int at = m;
            for (int hops = 0; hops < GIFT_LIMIT; hops++) {
                int g = net.giftInto(at);
                if (g == NONE) {
                    return at;
                }
                at = net.giftFrom(g);
            }
            return at;
        }

        private static int giftsBehind(Net net, int m) {
            int at = m;
            int mask = 0;
            for (int hops = 0; hops < GIFT_LIMIT; hops++) {
                int g = net.giftInto(at);
                if (g == NONE) {
                    return mask;
                }
                mask |= 1 << g;
                at = net.giftFrom(g);
            }
            return mask;
        }

        private static long sumOfLengths(Net net, int mask, int choice) {
            long sum = 0;
            for (int g = 0; g < net.giftCount(); g++) {
                if ((mask >> g & 1) == 1) {
                    sum += net.chosenLength(g, choice);
                }
            }
            return sum;
        }

        /**
         * The number of the first lengths for which there are no times, or NONE. Lows and highs
         * are enough for WEAK: between lengths that can be met, the times between theirs meet those
         * between, and with whole bounds there are whole times where there are any.
         */
        int firstSpoiled(Net net) {
            if (!spoiledIsKnown) {
                spoiled = seekSpoiled(net);
                spoiledIsKnown = true;
            }
            return spoiled;
        }

        private int seekSpoiled(Net net) {
            for (int choice = 0; choice < 1 << net.giftCount(); choice++) {
                if (!canBeMet(net, choice)) {
                    return choice;
                }
            }
            return NONE;
        }

        private boolean canBeMet(Net net, int choice) {
            Steps.ofAllLinks(net, steps);
            for (int g = 0; g < net.giftCount(); g++) {
                long length = net.chosenLength(g, choice);
                Steps.lowerBothWays(steps, net.giftFrom(g), net.giftTo(g), length, length);
            }
            return Steps.close(steps, net.momentCount());
        }
    }

    /** E and W, and the ROUNDS that make them. W(a, g) stands at a * GIFT_LIMIT + g. */
    private static final class Waits {
        private static final int GOES_ON = 0;
        private static final int ENDS_LIVELY = 1;
        private static final int ENDS_DEAD = 2;

        private final long[] edges = new long[MOMENT_LIMIT * MOMENT_LIMIT];
        private final long[] edgesBefore = new long[MOMENT_LIMIT * MOMENT_LIMIT];
        private final long[] edgesSeen = new long[MOMENT_LIMIT * MOMENT_LIMIT];
        private final long[] delays = new long[MOMENT_LIMIT * GIFT_LIMIT];
        private final long[] delaysBefore = new long[MOMENT_LIMIT * GIFT_LIMIT];
        private final long[] delaysSeen = new long[MOMENT_LIMIT * GIFT_LIMIT];
        private boolean known;
        private boolean alive;
        private int count;

        void forget() {
            known = false;
        }

        boolean isLively(Net net) {
            work(net);
            return alive;
        }

        int roundCount(Net net) {
            work(net);
            return count;
        }

        long edgeOf(int a, int b) {
            return edges[Steps.cell(a, b)];
        }

        long waitOf(int a, int g) {
            return delays[cell(a, g)];
        }

        private static int cell(int a, int g) {
            return a * GIFT_LIMIT + g;
        }

        private void work(Net net) {
            if (known) {
                return;
            }
            Steps.ofAllLinks(net, edges);
            beginDelays(net);
            int verdict = GOES_ON;
            count = 0;
            for (int round = 1; round <= ROUND_LIMIT && verdict == GOES_ON; round++) {
                verdict = doRound(net);
                count = round;
            }
            alive = verdict == ENDS_LIVELY;
            known = true;
        }

        private void beginDelays(Net net) {
            Arrays.fill(delays, FAR);
            for (int g = 0; g < net.giftCount(); g++) {
                delays[cell(net.giftTo(g), g)] = -net.giftHigh(g);
            }
        }

        private int doRound(Net net) {
            copy(edges, edgesBefore);
            copy(delays, delaysBefore);
            if (!Steps.close(edges, net.momentCount())) {
                return ENDS_DEAD;
            }
            carryWaitsAlongEdges(net);
            turnShortWaitsIntoEdges(net);
            carryEdgesOverGifts(net);
            carryWaitsOverGifts(net);
            if (isTooDeep(edges) || isTooDeep(delays) || hasRingWithWaits(net)) {
                return ENDS_DEAD;
            }
            return same(edges, edgesBefore) && same(delays, delaysBefore) ? ENDS_LIVELY : GOES_ON;
        }

        private void carryWaitsAlongEdges(Net net) {
            copy(delays, delaysSeen);
            for (int a = 0; a < net.momentCount(); a++) {
                for (int g = 0; g < net.giftCount(); g++) {
                    delays[cell(a, g)] = leastWaitVia(net.momentCount(), a, g);
                }
            }
        }

        private long leastWaitVia(int n, int a, int g) {
            long least = FAR;
            for (int b = 0; b < n; b++) {
                long step = edges[Steps.cell(a, b)];
                long delay = delaysSeen[cell(b, g)];
                if (step != FAR && delay != FAR) {
                    least = Math.min(least, step + delay);
                }
            }
            return least;
        }

        // FAR is above -low: it must be told apart, though it would never be less.
        private void turnShortWaitsIntoEdges(Net net) {
            for (int g = 0; g < net.giftCount(); g++) {
                for (int a = 0; a < net.momentCount(); a++) {
                    long delay = delays[cell(a, g)];
                    if (a != net.giftTo(g) && delay != FAR && delay >= -net.giftLow(g)) {
                        Steps.lower(edges, a, net.giftFrom(g), delay);
                    }
                }
            }
        }

        private void carryEdgesOverGifts(Net net) {
            copy(edges, edgesSeen);
            for (int g = 0; g < net.giftCount(); g++) {
                for (int b = 0; b < net.momentCount(); b++) {
                    long step = edgesSeen[Steps.cell(net.giftTo(g), b)];
                    if (step < 0) {
                        Steps.lower(edges, net.giftFrom(g), b, net.giftLow(g) + step);
                    }
                }
            }
        }

        private void carryWaitsOverGifts(Net net) {
            copy(delays, delaysSeen);
            for (int g = 0; g < net.giftCount(); g++) {
                for (int h = 0; h < net.giftCount(); h++) {
                    long delay = delaysSeen[cell(net.giftTo(g), h)];
                    if (h != g && delay < 0) {
                        int cell = cell(net.giftFrom(g), h);
                        delays[cell] = Math.min(delays[cell], net.giftLow(g) + delay);
                    }
                }
            }
        }

        // The row of edges seen is free here: carryEdgesOverGifts is through with it.
        private boolean hasRingWithWaits(Net net) {
            copy(edges, edgesSeen);
            for (int g = 0; g < net.giftCount(); g++) {
                for (int a = 0; a < net.momentCount(); a++) {
                    Steps.lower(edgesSeen, a, net.giftFrom(g), delays[cell(a, g)]);
                }
            }
            return !Steps.close(edgesSeen, net.momentCount());
        }

        private static boolean isTooDeep(long[] row) {
            for (int i = 0; i < row.length; i++) {
                if (row[i] < DEEPEST) {
                    return true;
                }
            }
            return false;
        }

        private static boolean same(long[] one, long[] other) {
            for (int i = 0; i < one.length && i < other.length; i++) {
                if (one[i] != other[i]) {
                    return false;
                }
            }
            return true;
        }

        private static void copy(long[] source, long[] target) {
            System.arraycopy(source, 0, target, 0, Math.min(source.length, target.length));
        }
    }

    /** A RUN: the tick, and when MOMENTS came. */
    private static final class Run {
        private final int[] ticks = new int[MOMENT_LIMIT];
        private boolean on;
        private int tick;
        private int comers;

        void begin() {
            Arrays.fill(ticks, NONE);
            on = true;
            tick = 0;
            comers = 0;
        }

        void end() {
            on = false;
        }

        boolean isOn() {
            return on;
        }

        int currentTick() {
            return tick;
        }

        int cameCount() {
            return comers;
        }

        int tickOf(int m) {
            return ticks[m];
        }

        boolean hasCome(int m) {
            return ticks[m] != NONE;
        }

        /** Whether it has not come, and is to be chosen. */
        boolean isOpen(Net net, int m) {
            return !hasCome(m) && !net.isGiven(m);
        }

        void letCome(int m) {
            ticks[m] = tick;
            comers++;
        }

        boolean canBeGiven(Net net, int m) {
            int g = net.giftInto(m);
            if (g == NONE || hasCome(m) || !hasCome(net.giftFrom(g))) {
                return false;
            }
            int ago = tick - ticks[net.giftFrom(g)];
            return ago >= net.giftLow(g) && ago <= net.giftHigh(g);
        }

        boolean someoneIsLate(Net net) {
            for (int g = 0; g < net.giftCount(); g++) {
                if (isUnderWay(net, g) && tick - ticks[net.giftFrom(g)] > net.giftHigh(g)) {
                    return true;
                }
            }
            return false;
        }

        private boolean isUnderWay(Net net, int g) {
            return hasCome(net.giftFrom(g)) && !hasCome(net.giftTo(g));
        }

        boolean canComeNow(Net net, Waits waits, int m) {
            return firstTick(net, waits, m) == tick;
        }

        int letAllComeThenTick(Net net, Waits waits) {
            int before = comers;
            for (int turn = 0; turn < MOMENT_LIMIT; turn++) {
                int m = leastThatCanCome(net, waits);
                if (m == NONE) {
                    break;
                }
                letCome(m);
            }
            tick++;
            return comers - before;
        }

        private int leastThatCanCome(Net net, Waits waits) {
            for (int m = 0; m < net.momentCount(); m++) {
                if (isOpen(net, m) && firstTick(net, waits, m) == tick) {
                    return m;
                }
            }
            return NONE;
        }

        // While none comes, each MOMENT MAY come from one tick to another: the ticks need no trying.
        int passTicks(Net net, Waits waits, int n) {
            long last = (long) tick + n;
            for (int m = 0; m < net.momentCount(); m++) {
                if (isOpen(net, m)) {
                    last = Math.min(last, firstTick(net, waits, m));
                }
            }
            for (int g = 0; g < net.giftCount(); g++) {
                if (isUnderWay(net, g)) {
                    last = Math.min(last, (long) ticks[net.giftFrom(g)] + net.giftHigh(g));
                }
            }
            int passed = (int) (last - tick);
            tick += passed;
            return passed;
        }

        /** The first tick, from now on, at which an open MOMENT MAY come if no other comes; FAR: none. */
        private long firstTick(Net net, Waits waits, int m) {
            long byEdges = earliestByEdges(net, waits, m);
            long byWaits = earliestByWaits(net, waits, m);
            long first = Math.max(tick, Math.max(byEdges, byWaits));
            return first <= latest(net, waits, m) ? first : FAR;
        }

        private long earliestByEdges(Net net, Waits waits, int m) {
            long earliest = 0;
            for (int b = 0; b < net.momentCount(); b++) {
                long step = waits.edgeOf(m, b);
                if (b == m || step == FAR) {
                    continue;
                }
                if (hasCome(b)) {
                    earliest = Math.max(earliest, ticks[b] - step);
                } else if (step < 0) {
                    return FAR;
                }
            }
            return earliest;
        }

        private long earliestByWaits(Net net, Waits waits, int m) {
            long earliest = 0;
            for (int g = 0; g < net.giftCount(); g++) {
                long delay = waits.waitOf(m, g);
                if (delay >= 0 || hasCome(net.giftTo(g))) {
                    continue;
                }
                if (!hasCome(net.giftFrom(g))) {
                    return FAR;
                }
                earliest = Math.max(earliest, ticks[net.giftFrom(g)] - delay);
            }
            return earliest;
        }

        private long latest(Net net, Waits waits, int m) {
            long latest = FAR;
            for (int b = 0; b < net.momentCount(); b++) {
                long step = waits.edgeOf(b, m);
                if (b != m && hasCome(b) && step != FAR) {
                    latest = Math.min(latest, ticks[b] + step);
                }
            }
            return latest;
        }

        /** Of a RUN in which all have come: the least LINK that is not kept, or NONE. */
        int firstBrokenLink(Net net) {
            for (int l = 0; l < net.linkCount(); l++) {
                int length = ticks[net.linkTo(l)] - ticks[net.linkFrom(l)];
                if (length < net.linkLow(l) || length > net.linkHigh(l)) {
                    return l;
                }
            }
            return NONE;
        }
    }
}
