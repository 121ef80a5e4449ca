import java.util.ArrayList;
import java.util.Arrays;
import java.util.List;
import java.util.Random;
import java.util.TreeMap;
import java.util.regex.Matcher;
import java.util.regex.Pattern;

/**
 * Long runs of calls, drawn from fixed seeds, against a model that follows the document word by
 * word and takes the dull way everywhere: ticks one by one, all lengths tried, rings sought by
 * sums that never end. A run's answers must be those of the model.
 */
public final class ModelTest {
    private static final int OBJECTS = 1500;
    /** What an object answers behind these is free. */
    private static final int CALLS = 512;
    private static final TreeMap<String, Integer> seen = new TreeMap<>();

    public static void main(String[] args) {
        int wrong = 0;
        for (int seed = 1; seed <= OBJECTS && wrong < 5; seed++) {
            wrong += new Pair(seed).play() ? 0 : 1;
        }
        if (args.length > 0) {
            seen.forEach((what, count) -> System.out.println(count + " " + what));
        }
        for (String what : List.of("lively 1", "lively 0", "strong 1", "weak 1 strong 0", "rounds 3", "rounds 4",
                "check 1", "check 0", "happen 1", "may 1", "may 0", "idle above 0", "late", "read 0 up",
                "read wrong", "spoiler", "wait below 0", "weak 1 lively 0", "strong 0 lively 1")) {
            if (!seen.containsKey(what)) {
                wrong++;
                System.out.println("the runs never met: " + what);
            }
        }
        System.out.println(wrong == 0 ? "all answers are those of the model" : wrong + " runs are wrong");
        if (wrong != 0) {
            System.exit(1);
        }
    }

    private static void note(String what) {
        seen.merge(what, 1, Integer::sum);
    }

    /** A TickPlans and a model of it that get the same calls. */
    private static final class Pair {
        final TickPlans real = new TickPlans();
        final Model model = new Model();
        final Random random;
        final int seed;
        final int style;
        final List<String> calls = new ArrayList<>();
        boolean right = true;

        Pair(int seed) {
            this.seed = seed;
            random = new Random(seed * 7919L);
            style = seed % 5;
        }

        boolean play() {
            while (calls.size() < CALLS && right) {
                int kind = random.nextInt(20);
                if (kind < 4) {
                    readNet();
                } else if (kind < 5) {
                    readNoise();
                } else if (kind < 8) {
                    change();
                } else if (kind < 11) {
                    ask();
                } else if (kind < 12) {
                    noise();
                } else if (kind < 14) {
                    askAll();
                } else {
                    run();
                }
            }
            return right;
        }

        void same(String call, long want, long got) {
            calls.add(call + " = " + got);
            if (want != got && right && calls.size() <= CALLS) {
                right = false;
                System.out.println("seed " + seed + ": " + call + " answered " + got + ", the model says " + want);
                int from = Math.max(0, calls.size() - 40);
                calls.subList(from, calls.size()).forEach(c -> System.out.println("    " + c));
            }
        }

        int pick(int n) {
            return random.nextInt(Math.max(n, 1));
        }

        int between(int low, int high) {
            return low + random.nextInt(high - low + 1);
        }

        int span() {
            int[] spans = {6, 12, 30, 1000, 100000};
            return spans[style];
        }

        /** A net around times that would do, so that it often hangs together. */
        String netText() {
            int n = between(2, style == 4 ? 16 : 8);
            int[] time = new int[n];
            for (int m = 0; m < n; m++) {
                time[m] = pick(span());
            }
            StringBuilder text = new StringBuilder("m " + n + ";");
            int gifts = pick(7);
            int links = gifts + pick(2 * n + 1);
            int slack = between(0, span());
            int spread = between(0, span() / 2);
            List<Integer> ends = new ArrayList<>();
            for (int l = 0; l < links && text.length() < 900; l++) {
                boolean gift = l < gifts;
                int a = gift || ends.isEmpty() || random.nextInt(3) == 0 ? pick(n) : ends.get(pick(ends.size()));
                int b = pick(n);
                boolean narrow = !gift && ends.contains(a) && !ends.contains(b) && random.nextInt(4) > 0;
                int length = narrow ? pick(1 + span() / 4) : time[b] - time[a];
                int room = narrow ? spread / 2 : gift ? spread : slack;
                int low = Math.max(gift ? 1 : narrow ? 0 : -100000, length - pick(room + 1));
                int high = Math.min(100000, length + pick(room + 1));
                if (low <= high && (gift ? mayGive(text.toString(), a, b) : a != b)) {
                    text.append(gift ? "g " : "w ").append(a + " " + b + " " + low + " " + high + ";");
                    if (gift) {
                        ends.add(b);
                    }
                }
            }
            return text.toString();
        }

        /** A net that grows by WISHES that leave it WEAK: the ROUNDS have to find out the rest. */
        String weakNetText() {
            Model trial = new Model();
            int n = between(3, style == 3 ? 12 : 7);
            trial.moments(n);
            int span = Math.min(span(), 20000);
            StringBuilder text = new StringBuilder("m " + n + ";");
            int gifts = between(1, 6);
            int links = gifts + pick(2 * n);
            for (int l = 0; l < links && text.length() < 900; l++) {
                boolean gift = l < gifts;
                int a = pick(n);
                int b = pick(n);
                int low = gift ? between(1, span) : pick(span) - (random.nextBoolean() ? 0 : span / 2);
                int high = low + pick(span) + (!gift && random.nextInt(5) == 0 ? 3 * span : 0);
                if ((gift ? trial.gift(a, b, low, high) : trial.wish(a, b, low, high)) < 0) {
                    continue;
                }
                if (trial.firstSpoiled() >= 0) {
                    trial.undo();
                } else {
                    text.append(gift ? "g " : "w ").append(a + " " + b + " " + low + " " + high + ";");
                }
            }
            return text.toString();
        }

        boolean mayGive(String text, int a, int b) {
            Model trial = new Model();
            trial.tape.append(text);
            trial.read();
            return trial.gift(a, b, 1, 1) >= 0;
        }

        void feedText(String text) {
            int size = model.tape.length();
            for (int i = 0; i < text.length(); i += 20) {
                int[] n = new int[5];
                for (int j = 0; j < 20; j++) {
                    n[j / 4] = n[j / 4] << 8 | (i + j < text.length() ? text.charAt(i + j) & 255 : 32);
                }
                same("feed " + Arrays.toString(n), model.feed(n), real.feed(n[0], n[1], n[2], n[3], n[4]));
            }
            same("trim", model.trim(size + text.length()), real.trim(size + text.length()));
        }

        void read() {
            int want = model.read();
            note(want >= 0 ? "read 0 up" : "read wrong");
            same("read", want, real.read());
            for (int what = 0; what < 5; what++) {
                same("told " + what, model.told(what), real.told(what));
            }
        }

        void readNet() {
            same("trim 0", model.trim(0), real.trim(0));
            feedText(random.nextBoolean() ? netText() : weakNetText());
            read();
        }

        void readNoise() {
            StringBuilder text = new StringBuilder(netText());
            String marks = "mwg;-0123456789 \n\t\r/:MWGx\u0000\u00ff\u00b2";
            for (int changes = between(1, 3); changes > 0; changes--) {
                int place = pick(text.length());
                int how = random.nextInt(3);
                if (how == 0 && text.length() > 1) {
                    text.deleteCharAt(place);
                } else if (how == 1) {
                    text.insert(place, marks.charAt(pick(marks.length())));
                } else {
                    text.setCharAt(place, marks.charAt(pick(marks.length())));
                }
            }
            same("trim 0", model.trim(0), real.trim(0));
            feedText(random.nextInt(8) == 0 ? text.substring(0, pick(text.length())) : text.toString());
            read();
        }

        void change() {
            int n = model.moments;
            int low = between(-span(), span());
            int high = low + pick(span());
            int a = pick(n + 1);
            int b = pick(n + 1);
            switch (random.nextInt(6)) {
                case 0:
                    int more = between(0, 2);
                    same("moments " + more, model.moments(more), real.moments(more));
                    break;
                case 1:
                case 2:
                    same("wish " + a + " " + b + " " + low + " " + high, model.wish(a, b, low, high), real.wish(a, b, low, high));
                    break;
                case 3:
                    low = Math.abs(low);
                    high = low + pick(span() / 3);
                    same("gift " + a + " " + b + " " + low + " " + high, model.gift(a, b, low, high), real.gift(a, b, low, high));
                    break;
                case 4:
                    int l = pick(model.links.size());
                    if (l < model.links.size()) {
                        low = model.links.get(l)[2] - pick(3) + pick(2);
                        high = model.links.get(l)[3] + pick(3) - pick(2);
                    }
                    same("tighten " + l + " " + low + " " + high, model.tighten(l, low, high), real.tighten(l, low, high));
                    break;
                default:
                    same("undo", model.undo(), real.undo());
            }
        }

        void ask() {
            int a = pick(model.moments + 1);
            int b = pick(model.moments + 1);
            int g = pick(model.gifts().size() + 1);
            switch (random.nextInt(8)) {
                case 0:
                    same("together", model.together(), real.together());
                    break;
                case 1:
                    same("distance " + a + " " + b, model.distance(a, b), real.distance(a, b));
                    break;
                case 2:
                    same("strong", model.strong(), real.strong());
                    break;
                case 3:
                    same("weak", model.weak(), real.weak());
                    break;
                case 4:
                    int want = model.spoiler(g);
                    note(want > 0 ? "spoiler" : "no spoiler");
                    same("spoiler " + g, want, real.spoiler(g));
                    break;
                case 5:
                    same("edge " + a + " " + b, model.edge(a, b), real.edge(a, b));
                    break;
                case 6:
                    same("wait " + a + " " + g, model.wait(a, g), real.wait(a, g));
                    break;
                default:
                    int l = pick(model.links.size() + 1);
                    int what = between(-1, 5);
                    same("link " + l + " " + what, model.link(l, what), real.link(l, what));
            }
        }

        void askAll() {
            int lively = model.lively();
            int weak = model.weak();
            int strong = model.strong();
            note("lively " + lively);
            note("strong " + strong);
            note("weak " + weak + " strong " + strong);
            note("weak " + weak + " lively " + lively);
            note("strong " + strong + " lively " + lively);
            note("rounds " + model.rounds());
            same("together", model.together(), real.together());
            same("strong", strong, real.strong());
            same("weak", weak, real.weak());
            same("lively", lively, real.lively());
            same("rounds", model.rounds(), real.rounds());
            for (int a = 0; a < model.moments; a++) {
                for (int b = 0; b < model.moments; b++) {
                    same("distance " + a + " " + b, model.distance(a, b), real.distance(a, b));
                    same("edge " + a + " " + b, model.edge(a, b), real.edge(a, b));
                }
                for (int g = 0; g < model.gifts().size(); g++) {
                    note(model.wait(a, g) < 0 ? "wait below 0" : "wait not below 0");
                    same("wait " + a + " " + g, model.wait(a, g), real.wait(a, g));
                }
            }
        }

        void noise() {
            int[] odd = {0, 1, -1, 2, 5, 6, 15, 16, 17, 59, 60, 200000, 200001, 1000, 1001, 100000, 100001,
                -100000, -100001, Integer.MIN_VALUE, Integer.MAX_VALUE};
            int a = odd[pick(odd.length)];
            int b = odd[pick(odd.length)];
            int c = odd[pick(odd.length)];
            int d = odd[pick(odd.length)];
            same("wish " + a + " " + b + " " + c + " " + d, model.wish(a, b, c, d), real.wish(a, b, c, d));
            same("gift " + a + " " + b + " " + c + " " + d, model.gift(a, b, c, d), real.gift(a, b, c, d));
            same("tighten " + a + " " + b + " " + c, model.tighten(a, b, c), real.tighten(a, b, c));
            same("link " + a + " " + b, model.link(a, b), real.link(a, b));
            same("trim " + a, model.trim(a), real.trim(a));
            same("distance " + a + " " + b, model.distance(a, b), real.distance(a, b));
            same("spoiler " + a, model.spoiler(a), real.spoiler(a));
            same("edge " + a + " " + b, model.edge(a, b), real.edge(a, b));
            same("wait " + a + " " + b, model.wait(a, b), real.wait(a, b));
            same("happen " + a, model.happen(a), real.happen(a));
            same("came " + a, model.came(a), real.came(a));
            same("may " + a, model.may(a), real.may(a));
            same("told " + a, model.told(a), real.told(a));
            if (a != 200000) {
                same("idle " + a, model.idle(a), real.idle(a));
            }
        }

        void run() {
            if (model.tick < 0 || random.nextInt(4) == 0) {
                same("start", model.start(), real.start());
            }
            boolean wild = random.nextInt(6) == 0;
            for (int turns = between(1, 24); turns > 0 && model.tick >= 0 && model.check() != 1; turns--) {
                runStep(wild);
            }
            int check = model.check();
            note("check " + (check < 0 ? check == -13 ? "STATE" : "broken" : String.valueOf(check)));
            same("check", check, real.check());
            same("now", model.now(), real.now());
            same("told 3", model.told(3), real.told(3));
            int m = pick(model.moments + 1);
            same("came " + m, model.came(m), real.came(m));
        }

        void runStep(boolean wild) {
            int m = pick(model.moments);
            int may = model.may(m);
            note("may " + may);
            same("may " + m, may, real.may(m));
            for (int given = 0; given < model.moments; given++) {
                if (random.nextInt(wild ? 9 : 3) == 0 || !wild && model.lastChance(given)) {
                    int want = model.happen(given);
                    note("happen " + want);
                    same("happen " + given, want, real.happen(given));
                }
            }
            int n = random.nextInt(4) == 0 ? 3 * span() : pick(4);
            if (n > 200000) {
                n = 200000;
            }
            if (model.someoneLate()) {
                note("late");
            }
            if (random.nextInt(3) == 0) {
                int want = model.idle(n);
                note(want > 0 ? "idle above 0" : "idle 0");
                same("idle " + n, want, real.idle(n));
            } else {
                same("goOn", model.goOn(), real.goOn());
            }
        }
    }

    /** The document, word by word. FAR is null inside. */
    private static final class Model {
        static final int UNKNOWN = -11;
        static final int OUTSIDE = -12;
        static final int STATE = -13;
        static final int FULL = -14;
        static final int NONE = -9;
        static final long FAR = 4611686018427387904L;

        int moments;
        /** beginning, end, low, high, 1 for a GIFT */
        List<int[]> links = new ArrayList<>();
        StringBuilder tape = new StringBuilder();
        int tick = -1;
        Integer[] came = new Integer[16];
        Rounds done;

        List<int[]> gifts() {
            List<int[]> gifts = new ArrayList<>();
            for (int[] l : links) {
                if (l[4] == 1) {
                    gifts.add(l);
                }
            }
            return gifts;
        }

        int changed(int answer) {
            tick = -1;
            done = null;
            return answer;
        }

        int moments(int n) {
            if (n < 1 || n > 16) {
                return OUTSIDE;
            }
            if (moments + n > 16) {
                return FULL;
            }
            moments += n;
            return changed(moments);
        }

        boolean moment(int m) {
            return 0 <= m && m < moments;
        }

        boolean outside(int low, int high) {
            return low > high || low < -100000 || high > 100000 || high < -100000 || low > 100000;
        }

        int wish(int a, int b, int low, int high) {
            if (!moment(a) || !moment(b)) {
                return UNKNOWN;
            }
            if (a == b) {
                return STATE;
            }
            if (outside(low, high)) {
                return OUTSIDE;
            }
            if (links.size() == 60) {
                return FULL;
            }
            links.add(new int[] {a, b, low, high, 0});
            return changed(links.size() - 1);
        }

        int[] giftTo(int m) {
            for (int[] g : gifts()) {
                if (g[1] == m) {
                    return g;
                }
            }
            return null;
        }

        int gift(int a, int b, int low, int high) {
            if (!moment(a) || !moment(b)) {
                return UNKNOWN;
            }
            if (a == b) {
                return STATE;
            }
            if (outside(low, high) || low <= 0) {
                return OUTSIDE;
            }
            if (giftTo(b) != null) {
                return STATE;
            }
            for (int[] g = giftTo(a); g != null; g = giftTo(g[0])) {
                if (g[0] == b) {
                    return STATE;
                }
            }
            if (links.size() == 60 || gifts().size() == 6) {
                return FULL;
            }
            links.add(new int[] {a, b, low, high, 1});
            return changed(links.size() - 1);
        }

        int undo() {
            if (links.isEmpty()) {
                return STATE;
            }
            links.remove(links.size() - 1);
            return changed(links.size());
        }

        int tighten(int l, int low, int high) {
            if (l < 0 || l >= links.size()) {
                return UNKNOWN;
            }
            int[] link = links.get(l);
            if (outside(low, high) || link[4] == 1 && low <= 0) {
                return OUTSIDE;
            }
            link[2] = low;
            link[3] = high;
            return changed(1);
        }

        int link(int l, int what) {
            if (l < 0 || l >= links.size()) {
                return UNKNOWN;
            }
            if (what < 0 || what > 4) {
                return OUTSIDE;
            }
            int[] link = links.get(l);
            return what < 4 ? link[what] : link[4] == 1 ? gifts().indexOf(link) : NONE;
        }

        int feed(int[] n) {
            if (tape.length() > 980) {
                return FULL;
            }
            for (int x : n) {
                tape.append((char) (x >>> 24)).append((char) (x >>> 16 & 255)).append((char) (x >>> 8 & 255)).append((char) (x & 255));
            }
            return tape.length();
        }

        int trim(int n) {
            if (n < 0 || n > tape.length()) {
                return OUTSIDE;
            }
            tape.setLength(n);
            return n;
        }

        int read() {
            String text = tape.toString();
            tape.setLength(0);
            Model other = new Model();
            Matcher tokens = Pattern.compile("[ \n]*([mwg;]|-?[0-9]+|[^ \n])").matcher(text);
            String shape = "";
            List<Integer> numbers = new ArrayList<>();
            int at = 0;
            while (tokens.find(at)) {
                String token = tokens.group(1);
                int place = tokens.start(1);
                boolean number = token.matches("-?[0-9]{1,6}");
                shape += number ? "n" : token;
                if (number) {
                    numbers.add(Integer.parseInt(token));
                }
                if (!shape.matches("m|mn|mn;|[wg]|[wg]n|[wg]nn|[wg]nnn|[wg]nnnn|[wg]nnnn;")) {
                    return -20 - place;
                }
                if (shape.endsWith(";")) {
                    if (other.item(shape.charAt(0), numbers) < 0) {
                        return -20 - place;
                    }
                    shape = "";
                    numbers.clear();
                }
                at = tokens.end();
            }
            if (!shape.isEmpty()) {
                return -20 - text.length();
            }
            moments = other.moments;
            links = other.links;
            return changed(links.size());
        }

        int item(char letter, List<Integer> n) {
            if (letter == 'm') {
                return moments(n.get(0));
            }
            return letter == 'w' ? wish(n.get(0), n.get(1), n.get(2), n.get(3)) : gift(n.get(0), n.get(1), n.get(2), n.get(3));
        }

        /** Steps as rows of from, to, length; rings by sums that still fall behind as many turns as there are moments. */
        long[] sums(List<long[]> steps, int from) {
            long[] sum = new long[16];
            Arrays.fill(sum, FAR);
            if (from < 0) {
                Arrays.fill(sum, 0);
            } else {
                sum[from] = 0;
            }
            for (int turn = 0; turn <= 16; turn++) {
                boolean falls = false;
                for (long[] s : steps) {
                    if (sum[(int) s[0]] != FAR && sum[(int) s[0]] + s[2] < sum[(int) s[1]]) {
                        sum[(int) s[1]] = sum[(int) s[0]] + s[2];
                        falls = true;
                    }
                }
                if (!falls) {
                    return sum;
                }
            }
            return null;
        }

        boolean ring(List<long[]> steps) {
            return sums(steps, -1) == null;
        }

        List<long[]> steps() {
            List<long[]> steps = new ArrayList<>();
            for (int[] l : links) {
                steps.add(new long[] {l[0], l[1], l[3]});
                steps.add(new long[] {l[1], l[0], -l[2]});
            }
            return steps;
        }

        int together() {
            return ring(steps()) ? 0 : 1;
        }

        long distance(int a, int b) {
            return !moment(a) || !moment(b) || together() == 0 ? 0 : sums(steps(), a)[b];
        }

        /** Each choice of lows and highs asks the same times to keep all WISHES: WISHES are kept by all lengths if by these. */
        int strong() {
            List<long[]> steps = new ArrayList<>();
            List<int[]> gifts = gifts();
            for (int choice = 0; choice < 1 << gifts.size(); choice++) {
                for (int[] l : links) {
                    if (l[4] == 0) {
                        long[] a = fixed(l[0], choice, gifts);
                        long[] b = fixed(l[1], choice, gifts);
                        steps.add(new long[] {a[0], b[0], l[3] + a[1] - b[1]});
                        steps.add(new long[] {b[0], a[0], -(l[2] + a[1] - b[1])});
                    }
                }
            }
            return ring(steps) ? 0 : 1;
        }

        /** The MOMENT that is not GIVEN from which it comes, and how much later. */
        long[] fixed(int m, int choice, List<int[]> gifts) {
            int[] g = giftTo(m);
            if (g == null) {
                return new long[] {m, 0};
            }
            long[] before = fixed(g[0], choice, gifts);
            before[1] += (choice >> gifts.indexOf(g) & 1) == 1 ? g[3] : g[2];
            return before;
        }

        boolean met(int[] lengths) {
            List<long[]> steps = new ArrayList<>();
            int g = 0;
            for (int[] l : links) {
                long low = l[4] == 1 ? lengths[g] : l[2];
                long high = l[4] == 1 ? lengths[g++] : l[3];
                steps.add(new long[] {l[0], l[1], high});
                steps.add(new long[] {l[1], l[0], -low});
            }
            return !ring(steps);
        }

        int[] lengths(int choice) {
            List<int[]> gifts = gifts();
            int[] lengths = new int[gifts.size()];
            for (int g = 0; g < lengths.length; g++) {
                lengths[g] = (choice >> g & 1) == 1 ? gifts.get(g)[3] : gifts.get(g)[2];
            }
            return lengths;
        }

        int firstSpoiled() {
            for (int choice = 0; choice < 1 << gifts().size(); choice++) {
                if (!met(lengths(choice))) {
                    return choice;
                }
            }
            return -1;
        }

        int weak() {
            long all = 1;
            for (int[] g : gifts()) {
                all *= g[3] - g[2] + 1;
                if (all > 300) {
                    return firstSpoiled() < 0 ? 1 : 0;
                }
            }
            return allMet(lengths(0), 0) ? 1 : 0;
        }

        boolean allMet(int[] lengths, int g) {
            if (g == lengths.length) {
                return met(lengths);
            }
            for (int length = gifts().get(g)[2]; length <= gifts().get(g)[3]; length++) {
                lengths[g] = length;
                if (!allMet(lengths, g + 1)) {
                    return false;
                }
            }
            return true;
        }

        int spoiler(int g) {
            if (g < 0 || g >= gifts().size()) {
                return UNKNOWN;
            }
            return weak() == 1 ? STATE : lengths(firstSpoiled())[g];
        }

        Rounds done() {
            if (done == null) {
                done = new Rounds(this);
            }
            return done;
        }

        int lively() {
            return done().lively ? 1 : 0;
        }

        int rounds() {
            return done().rounds;
        }

        long edge(int a, int b) {
            return !moment(a) || !moment(b) || lively() == 0 ? 0 : far(done().e[a][b]);
        }

        long wait(int a, int g) {
            return !moment(a) || g < 0 || g >= gifts().size() || lively() == 0 ? 0 : far(done().w[a][g]);
        }

        static long far(Long x) {
            return x == null ? FAR : x;
        }

        int start() {
            if (lively() == 0) {
                return STATE;
            }
            tick = 0;
            came = new Integer[16];
            return 1;
        }

        int happen(int m) {
            if (!moment(m)) {
                return UNKNOWN;
            }
            int[] g = giftTo(m);
            if (tick < 0 || g == null || came[m] != null || came[g[0]] == null
                    || tick - came[g[0]] < g[2] || tick - came[g[0]] > g[3]) {
                return STATE;
            }
            came[m] = tick;
            return 1;
        }

        boolean lastChance(int m) {
            int[] g = giftTo(m);
            return tick >= 0 && g != null && came[m] == null && came[g[0]] != null && tick - came[g[0]] == g[3];
        }

        boolean late(int m, int t) {
            int[] g = giftTo(m);
            return g != null && came[m] == null && came[g[0]] != null && t - came[g[0]] > g[3];
        }

        boolean someoneLate(int t) {
            for (int m = 0; m < moments; m++) {
                if (late(m, t)) {
                    return true;
                }
            }
            return false;
        }

        boolean someoneLate() {
            return tick >= 0 && someoneLate(tick);
        }

        boolean mayCome(int it, int t) {
            if (giftTo(it) != null || came[it] != null) {
                return false;
            }
            for (int b = 0; b < moments; b++) {
                Long to = done().e[it][b];
                Long back = done().e[b][it];
                if (b != it && to != null && to < 0 && came[b] == null) {
                    return false;
                }
                if (came[b] != null && to != null && t < came[b] - to) {
                    return false;
                }
                if (came[b] != null && back != null && t > came[b] + back) {
                    return false;
                }
            }
            List<int[]> gifts = gifts();
            for (int g = 0; g < gifts.size(); g++) {
                Long w = done().w[it][g];
                Integer begun = came[gifts.get(g)[0]];
                boolean through = came[gifts.get(g)[1]] != null || begun != null && w != null && t >= begun - w;
                if (w != null && w < 0 && !through) {
                    return false;
                }
            }
            return true;
        }

        int firstThatMay() {
            for (int m = 0; m < moments; m++) {
                if (mayCome(m, tick)) {
                    return m;
                }
            }
            return -1;
        }

        int goOn() {
            if (tick < 0 || someoneLate()) {
                return STATE;
            }
            int count = 0;
            for (int m = firstThatMay(); m >= 0; m = firstThatMay()) {
                came[m] = tick;
                count++;
            }
            tick++;
            return count;
        }

        int idle(int n) {
            if (n < 0 || n > 200000) {
                return OUTSIDE;
            }
            if (tick < 0 || someoneLate()) {
                return STATE;
            }
            int count = 0;
            while (count < n && firstThatMay() < 0 && !someoneLate(tick + 1)) {
                tick++;
                count++;
            }
            return count;
        }

        int came(int m) {
            if (!moment(m)) {
                return UNKNOWN;
            }
            return tick < 0 ? STATE : came[m] == null ? NONE : came[m];
        }

        int may(int m) {
            if (!moment(m)) {
                return UNKNOWN;
            }
            if (tick < 0 || giftTo(m) != null || came[m] != null) {
                return STATE;
            }
            return mayCome(m, tick) ? 1 : 0;
        }

        int now() {
            return tick < 0 ? STATE : tick;
        }

        int cameCount() {
            int count = 0;
            for (int m = 0; m < moments; m++) {
                count += came[m] == null ? 0 : 1;
            }
            return count;
        }

        int check() {
            if (tick < 0) {
                return STATE;
            }
            if (cameCount() < moments) {
                return 0;
            }
            for (int l = 0; l < links.size(); l++) {
                int length = came[links.get(l)[1]] - came[links.get(l)[0]];
                if (length < links.get(l)[2] || length > links.get(l)[3]) {
                    return -20 - l;
                }
            }
            return 1;
        }

        int told(int what) {
            int[] all = {moments, links.size(), gifts().size(), tick < 0 ? 0 : cameCount(), tape.length()};
            return what < 0 || what > 4 ? OUTSIDE : all[what];
        }
    }

    /** E and W of a model, ROUND by ROUND; null is FAR. */
    private static final class Rounds {
        final Model net;
        final List<int[]> gifts;
        final int n;
        Long[][] e;
        Long[][] w;
        int rounds;
        boolean lively;

        Rounds(Model net) {
            this.net = net;
            gifts = net.gifts();
            n = net.moments;
            e = new Long[n][n];
            w = new Long[n][gifts.size()];
            for (long[] s : net.steps()) {
                e[(int) s[0]][(int) s[1]] = less(e[(int) s[0]][(int) s[1]], s[2]);
            }
            for (int a = 0; a < n; a++) {
                e[a][a] = 0L;
            }
            for (int g = 0; g < gifts.size(); g++) {
                w[gifts.get(g)[1]][g] = (long) -gifts.get(g)[3];
            }
            boolean goes = true;
            while (goes && rounds < 400) {
                rounds++;
                goes = round();
            }
        }

        static Long less(Long x, Long y) {
            return x == null ? y : y == null ? x : Long.valueOf(Math.min(x, y));
        }

        static Long sum(Long x, Long y) {
            return x == null || y == null ? null : Long.valueOf(x + y);
        }

        static Long[][] copy(Long[][] x) {
            Long[][] y = x.clone();
            for (int i = 0; i < x.length; i++) {
                y[i] = x[i].clone();
            }
            return y;
        }

        List<long[]> steps(boolean withWaits) {
            List<long[]> steps = new ArrayList<>();
            for (int a = 0; a < n; a++) {
                for (int b = 0; b < n; b++) {
                    if (e[a][b] != null) {
                        steps.add(new long[] {a, b, e[a][b]});
                    }
                }
                for (int g = 0; withWaits && g < gifts.size(); g++) {
                    if (w[a][g] != null) {
                        steps.add(new long[] {a, gifts.get(g)[0], w[a][g]});
                    }
                }
            }
            return steps;
        }

        boolean round() {
            Long[][] e0 = copy(e);
            Long[][] w0 = copy(w);
            List<long[]> steps = steps(false);
            if (net.ring(steps)) {
                return false;
            }
            for (int a = 0; a < n; a++) {
                long[] sums = net.sums(steps, a);
                for (int b = 0; b < n; b++) {
                    e[a][b] = sums[b] == Model.FAR ? null : Long.valueOf(sums[b]);
                }
            }
            Long[][] seen = copy(w);
            for (int a = 0; a < n; a++) {
                for (int g = 0; g < gifts.size(); g++) {
                    w[a][g] = null;
                    for (int b = 0; b < n; b++) {
                        w[a][g] = less(w[a][g], sum(e[a][b], seen[b][g]));
                    }
                }
            }
            stepsThreeToFive();
            if (tooDeep(e) || tooDeep(w) || net.ring(steps(true))) {
                return false;
            }
            lively = Arrays.deepEquals(e, e0) && Arrays.deepEquals(w, w0);
            return !lively;
        }

        void stepsThreeToFive() {
            for (int g = 0; g < gifts.size(); g++) {
                int[] gift = gifts.get(g);
                for (int a = 0; a < n; a++) {
                    if (a != gift[1] && w[a][g] != null && w[a][g] >= -gift[2]) {
                        e[a][gift[0]] = less(e[a][gift[0]], w[a][g]);
                    }
                }
            }
            Long[][] seen = copy(e);
            for (int[] gift : gifts) {
                for (int b = 0; b < n; b++) {
                    if (seen[gift[1]][b] != null && seen[gift[1]][b] < 0) {
                        e[gift[0]][b] = less(e[gift[0]][b], gift[2] + seen[gift[1]][b]);
                    }
                }
            }
            seen = copy(w);
            for (int g = 0; g < gifts.size(); g++) {
                int[] gift = gifts.get(g);
                for (int h = 0; h < gifts.size(); h++) {
                    if (h != g && seen[gift[1]][h] != null && seen[gift[1]][h] < 0) {
                        w[gift[0]][h] = less(w[gift[0]][h], gift[2] + seen[gift[1]][h]);
                    }
                }
            }
        }

        boolean tooDeep(Long[][] x) {
            for (Long[] row : x) {
                for (Long value : row) {
                    if (value != null && value < -1000000000000L) {
                        return true;
                    }
                }
            }
            return false;
        }
    }
}
