import java.util.ArrayList;
import java.util.Arrays;
import java.util.List;
import java.util.Random;
import java.util.TreeSet;
import java.util.regex.Matcher;
import java.util.regex.Pattern;

/**
 * Long runs of calls, answered by the class and by a model that takes the document's words as they stand:
 * texts are read by a regular expression, every term is sought through all sets, nothing is kept.
 */
public final class PlainModelTest {
    private static final class Part {
        char kind;
        String letters;
        int number;

        boolean holds(int set, int[] weights) {
            if (kind == 'a') {
                return has(set, letters.charAt(0));
            }
            if (kind == '!') {
                return !has(set, letters.charAt(0));
            }
            int sum = 0;
            for (char c : letters.toCharArray()) {
                sum += has(set, c) ? weights[c - 'a'] : 0;
            }
            return sum < number;
        }
    }

    private static final class Rule {
        int kind;
        String head = "";
        int low = -1;
        int high = -1;
        List<Part> body = new ArrayList<>();
        boolean in = true;
        boolean doubted = false;
        int rank;
        int cost;

        boolean holds(int set, int[] weights) {
            for (Part part : body) {
                if (!part.holds(set, weights)) {
                    return false;
                }
            }
            return true;
        }

        boolean breaks(int set, int[] weights) {
            if (!holds(set, weights)) {
                return false;
            }
            int n = 0;
            for (char c : head.toCharArray()) {
                n += has(set, c) ? 1 : 0;
            }
            if (kind == 3) {
                return low >= 0 && (n < low || n > high);
            }
            return kind == 4 || n == 0;
        }

        boolean atomsWithin(int set) {
            for (Part part : body) {
                if (part.kind == 'a' && !has(set, part.letters.charAt(0))) {
                    return false;
                }
            }
            return true;
        }

        int bits(char kind) {
            int bits = 0;
            for (Part part : body) {
                if (part.kind == kind) {
                    bits |= 1 << part.letters.charAt(0) - 'a';
                }
            }
            return bits;
        }

        int headBits() {
            int bits = 0;
            for (char c : head.toCharArray()) {
                bits |= 1 << c - 'a';
            }
            return bits;
        }

        boolean orWithAnother(int set, char atom) {
            if (kind != 2) {
                return false;
            }
            for (char c : head.toCharArray()) {
                if (c != atom && has(set, c)) {
                    return true;
                }
            }
            return false;
        }
    }

    private static boolean has(int set, char letter) {
        return (set & 1 << letter - 'a') != 0;
    }

    private static final class Model {
        int n = 4;
        int[] weights = new int[10];
        String tape = "";
        List<Rule> rules = new ArrayList<>();
        List<Rule> wishes = new ArrayList<>();
        int given = 0;
        int banned = 0;
        List<Integer> lines = new ArrayList<>();
        TreeSet<Integer> image = null;
        int[] refused = new int[7];

        Model() {
            Arrays.fill(weights, 1);
        }

        int no(int number) {
            refused[-number]++;
            return number;
        }

        boolean noAtom(int atom) {
            return atom < 0 || atom >= n;
        }

        boolean noSet(int set) {
            return set < 0 || set >= 1 << n;
        }

        boolean noRule(int rule) {
            return rule < 0 || rule >= rules.size();
        }

        String grammar() {
            String a = "[a-" + (char) ('a' + n - 1) + "]";
            String part = "(?:" + a + "|!" + a + "|\\[" + a + "(?:\\+" + a + "){0,5}<[0-9]{1,3}\\])";
            String body = part + "(?:," + part + "){0,7}";
            String head = "(?:" + a + "(?:\\|" + a + "){0,3}|\\{" + a + "(?:," + a + "){0,5}\\}(?:[0-9]-[0-9])?)";
            return "(?:" + head + "(?::" + body + ")?|:" + body + ")";
        }

        int fault(String text) {
            Pattern pattern = Pattern.compile(grammar(), Pattern.DOTALL);
            for (int i = 1; i <= text.length(); i++) {
                Matcher m = pattern.matcher(text.substring(0, i));
                if (!m.matches() && !m.hitEnd()) {
                    return i - 1;
                }
            }
            return pattern.matcher(text).matches() ? -1 : text.length();
        }

        Rule read(String text) {
            Rule rule = new Rule();
            int colon = text.indexOf(':');
            String head = colon < 0 ? text : text.substring(0, colon);
            if (head.isEmpty()) {
                rule.kind = 4;
            } else if (head.startsWith("{")) {
                rule.kind = 3;
                rule.head = head.substring(1, head.indexOf('}')).replace(",", "");
                String range = head.substring(head.indexOf('}') + 1);
                if (!range.isEmpty()) {
                    rule.low = range.charAt(0) - '0';
                    rule.high = range.charAt(2) - '0';
                }
            } else {
                rule.kind = head.length() == 1 ? 1 : 2;
                rule.head = head.replace("|", "");
            }
            if (colon >= 0) {
                for (String piece : text.substring(colon + 1).split(",")) {
                    Part part = new Part();
                    part.kind = piece.charAt(0) == '!' || piece.charAt(0) == '[' ? piece.charAt(0) : 'a';
                    if (part.kind == '[') {
                        int less = piece.indexOf('<');
                        part.letters = piece.substring(1, less).replace("+", "");
                        part.number = Integer.parseInt(piece.substring(less + 1, piece.length() - 1));
                    } else {
                        part.letters = piece.substring(piece.length() - 1);
                    }
                    rule.body.add(part);
                }
            }
            return rule;
        }

        List<Rule> in() {
            List<Rule> in = new ArrayList<>();
            for (Rule rule : rules) {
                if (rule.in) {
                    in.add(rule);
                }
            }
            return in;
        }

        boolean carriesAt(Rule rule, int set, int ahead, int atom) {
            char letter = (char) ('a' + atom);
            return rule.in && rule.head.indexOf(letter) >= 0 && has(set, letter) && rule.holds(set, weights)
                    && rule.atomsWithin(ahead) && !rule.orWithAnother(set, letter);
        }

        int[] steps(int set) {
            int[] steps = new int[n];
            Arrays.fill(steps, -9);
            for (int step = 1; step <= n + 1; step++) {
                int ahead = 0;
                for (int a = 0; a < n; a++) {
                    ahead |= steps[a] != -9 ? 1 << a : 0;
                }
                for (int a = 0; a < n; a++) {
                    boolean carried = step == 1 && (given & set & 1 << a) != 0;
                    for (Rule rule : rules) {
                        carried |= carriesAt(rule, set, ahead, a);
                    }
                    if (carried && steps[a] == -9) {
                        steps[a] = step;
                    }
                }
            }
            return steps;
        }

        int unheldOf(int set) {
            int[] steps = steps(set);
            int bits = 0;
            for (int a = 0; a < n; a++) {
                bits |= (set & 1 << a) != 0 && steps[a] == -9 ? 1 << a : 0;
            }
            return bits;
        }

        boolean lesserDoes(int y, int x) {
            if ((y & ~x) != 0 || y == x || (given & ~y) != 0) {
                return false;
            }
            for (Rule rule : in()) {
                if (rule.kind == 4 || !rule.holds(x, weights) || !rule.atomsWithin(y)) {
                    continue;
                }
                int heads = rule.headBits();
                if (rule.kind == 3 ? (heads & x & y) != (heads & x) : (heads & y) == 0) {
                    return false;
                }
            }
            return true;
        }

        boolean held(int x) {
            boolean or = false;
            for (Rule rule : in()) {
                or |= rule.kind == 2;
            }
            if (!or) {
                return unheldOf(x) == 0;
            }
            for (int y = 0; y < x; y++) {
                if (lesserDoes(y, x)) {
                    return false;
                }
            }
            return true;
        }

        boolean isWorld(int x) {
            return x >= 0 && x < 1 << n && firstBroken(x) == -9 && (given & ~x) == 0 && (banned & x) == 0 && held(x);
        }

        int firstBroken(int x) {
            for (int r = 0; r < rules.size(); r++) {
                if (rules.get(r).in && rules.get(r).breaks(x, weights)) {
                    return r;
                }
            }
            return -9;
        }

        TreeSet<Integer> allWorlds() {
            TreeSet<Integer> all = new TreeSet<>();
            for (int x = 0; x < 1 << n; x++) {
                if (isWorld(x)) {
                    all.add(x);
                }
            }
            return all;
        }

        int costOf(int set, int rank) {
            int sum = 0;
            for (Rule wish : wishes) {
                sum += wish.rank == rank && wish.holds(set, weights) ? wish.cost : 0;
            }
            return sum;
        }

        int compareCosts(int x, int y) {
            for (int rank = 3; rank >= 0; rank--) {
                int c = Integer.compare(costOf(x, rank), costOf(y, rank));
                if (c != 0) {
                    return c;
                }
            }
            return 0;
        }

        int evenOf(int set) {
            int like = 0;
            for (int x : allWorlds()) {
                like += compareCosts(x, set) == 0 ? 1 : 0;
            }
            return like;
        }

        int comes(int others, boolean alone) {
            int come = given;
            for (int round = 0; round < 12; round++) {
                for (Rule rule : in()) {
                    if (alone && rule.kind != 1) {
                        continue;
                    }
                    boolean so = rule.atomsWithin(come);
                    for (Part part : rule.body) {
                        so &= part.kind == 'a' || part.holds(others, weights);
                    }
                    come |= so ? rule.headBits() : 0;
                }
            }
            return come;
        }

        int call(String name, int p, int q, long bytes, boolean is) {
            switch (name) {
                case "atoms":
                    if (p < 1) {
                        return no(-4);
                    }
                    if (p > 10) {
                        return no(-6);
                    }
                    if (rules.size() + wishes.size() > 0 || (given | banned) >= 1 << p) {
                        return no(-3);
                    }
                    int was = n;
                    n = p;
                    return was;
                case "weight":
                    if (noAtom(p)) {
                        return no(-1);
                    }
                    if (q < 0 || q > 99) {
                        return no(q < 0 ? -4 : -6);
                    }
                    int old = weights[p];
                    weights[p] = q;
                    return old;
                case "feed":
                    if (p < 1) {
                        return no(-4);
                    }
                    if (p > 8 || tape.length() + p > 60) {
                        return no(-6);
                    }
                    for (int i = 0; i < p; i++) {
                        tape += (char) (bytes >>> 8 * i & 255);
                    }
                    return tape.length();
                case "rule":
                    if (rules.size() == 30) {
                        return no(-6);
                    }
                    String text = tape;
                    tape = "";
                    if (fault(text) >= 0) {
                        return -20 - fault(text);
                    }
                    rules.add(read(text));
                    return rules.size() - 1;
                case "wish":
                    if (p < 0 || q < 1) {
                        return no(-4);
                    }
                    if (p > 3 || q > 99 || wishes.size() == 20) {
                        return no(-6);
                    }
                    String wished = tape;
                    tape = "";
                    if (!wished.startsWith(":")) {
                        return -20;
                    }
                    if (fault(wished) >= 0) {
                        return -20 - fault(wished);
                    }
                    Rule wish = read(wished);
                    wish.rank = p;
                    wish.cost = q;
                    wishes.add(wish);
                    return wishes.size() - 1;
                case "put":
                    if (noRule(p)) {
                        return no(-1);
                    }
                    boolean wasIn = rules.get(p).in;
                    rules.get(p).in = is;
                    return wasIn == is ? 0 : 1;
                case "given":
                    if (noAtom(p)) {
                        return no(-1);
                    }
                    if ((banned & 1 << p) != 0) {
                        return no(-3);
                    }
                    int givenBefore = given;
                    given = is ? given | 1 << p : given & ~(1 << p);
                    return given == givenBefore ? 0 : 1;
                case "banned":
                    if (noAtom(p)) {
                        return no(-1);
                    }
                    if ((given & 1 << p) != 0) {
                        return no(-3);
                    }
                    int bannedBefore = banned;
                    banned = is ? banned | 1 << p : banned & ~(1 << p);
                    return banned == bannedBefore ? 0 : 1;
                case "ruleOf":
                    if (noRule(p)) {
                        return no(-1);
                    }
                    Rule asked = rules.get(p);
                    return q < 0 || q > 4 ? no(-2) : q == 0 ? asked.kind : q == 1 ? asked.headBits()
                            : q == 2 ? asked.bits('a') : q == 3 ? asked.bits('!') : asked.in ? 1 : 0;
                default:
                    return ask(name, p, q, is);
            }
        }

        int ask(String name, int p, int q, boolean is) {
            switch (name) {
                case "holds":
                    return noRule(p) || noSet(q) ? no(-1) : rules.get(p).holds(q, weights) ? 1 : 0;
                case "broken":
                    return noSet(p) ? no(-1) : firstBroken(p);
                case "step":
                    return noSet(p) || noAtom(q) ? no(-1) : steps(p)[q];
                case "unheld":
                    return noSet(p) ? no(-1) : unheldOf(p);
                case "world":
                    return noSet(p) ? no(-1) : isWorld(p) ? 1 : 0;
                case "next":
                    if (p != -1 && noSet(p)) {
                        return no(-1);
                    }
                    Integer next = allWorlds().higher(p);
                    return next == null ? -9 : next;
                case "worlds":
                    return allWorlds().size();
                case "sure":
                    if (p != 0 && p != 1) {
                        return no(-2);
                    }
                    int all = -1;
                    int some = 0;
                    for (int x : allWorlds()) {
                        all &= x;
                        some |= x;
                    }
                    return allWorlds().isEmpty() ? -9 : p == 0 ? all : some;
                case "shown":
                    if (noSet(p)) {
                        return no(-1);
                    }
                    TreeSet<Integer> parts = new TreeSet<>();
                    for (int x : allWorlds()) {
                        parts.add(x & p);
                    }
                    return parts.size();
                case "cost":
                    return noSet(p) ? no(-1) : q < 0 ? no(-4) : q > 3 ? no(-6) : costOf(p, q);
                case "best":
                    if (p != 0 && p != 1) {
                        return no(-2);
                    }
                    int best = -9;
                    for (int x : allWorlds()) {
                        if (best == -9 || compareCosts(x, best) < 0) {
                            best = x;
                        }
                    }
                    return best == -9 || p == 0 ? best : evenOf(best);
                case "even":
                    return noSet(p) ? no(-1) : !isWorld(p) ? no(-3) : evenOf(p);
                case "bound":
                    if (p != 0 && p != 1) {
                        return no(-2);
                    }
                    int below = 0;
                    int above = (1 << n) - 1;
                    for (int round = 0; round < 30; round++) {
                        below = comes(above, true);
                        above = comes(below, false);
                    }
                    return p == 0 ? below : above;
                case "why":
                    return noSet(p) || noAtom(q) ? no(-1) : whyOf(p, q);
                case "whyNot":
                    return noSet(p) || noAtom(q) ? no(-1) : whyNotOf(p, q);
                default:
                    return tell(name, p, is);
            }
        }

        int whyOf(int set, int atom) {
            int[] steps = steps(set);
            if (steps[atom] == -9) {
                return -9;
            }
            if ((given & 1 << atom) != 0) {
                return 90;
            }
            int ahead = 0;
            for (int a = 0; a < n; a++) {
                ahead |= steps[a] != -9 && steps[a] < steps[atom] ? 1 << a : 0;
            }
            for (int r = 0; r < rules.size(); r++) {
                if (carriesAt(rules.get(r), set, ahead, atom)) {
                    return r;
                }
            }
            return -9;
        }

        int whyNotOf(int set, int atom) {
            for (int r = 0; r < rules.size(); r++) {
                Rule rule = rules.get(r);
                if (rule.in && rule.head.indexOf('a' + atom) >= 0) {
                    for (int place = 0; place < rule.body.size(); place++) {
                        if (!rule.body.get(place).holds(set, weights)) {
                            return 10 * r + place;
                        }
                    }
                }
            }
            return -9;
        }

        int tell(String name, int p, boolean is) {
            switch (name) {
                case "doubt":
                    if (noRule(p)) {
                        return no(-1);
                    }
                    if (rules.get(p).doubted == is) {
                        return 0;
                    }
                    if (is && doubtedCount() == 6) {
                        return no(-6);
                    }
                    rules.get(p).doubted = is;
                    return 1;
                case "amends":
                    return amendsNow();
                case "image":
                    image = allWorlds();
                    return image.size();
                case "compared":
                    if (p != 0 && p != 1) {
                        return no(-2);
                    }
                    if (image == null) {
                        return no(-3);
                    }
                    TreeSet<Integer> left = p == 0 ? allWorlds() : new TreeSet<>(image);
                    left.removeAll(p == 0 ? image : allWorlds());
                    return left.isEmpty() ? -9 : left.first();
                case "line":
                    if (p < -128) {
                        return no(-4);
                    }
                    if (p > 127 || lines.size() == 12) {
                        return no(-6);
                    }
                    lines.add(p);
                    return lines.size();
                case "judge":
                    int judged = judgeNow();
                    lines.clear();
                    return judged;
                default:
                    return countOf(p);
            }
        }

        int doubtedCount() {
            int sum = 0;
            for (Rule rule : rules) {
                sum += rule.doubted ? 1 : 0;
            }
            return sum;
        }

        int amendsNow() {
            List<Rule> doubted = new ArrayList<>();
            for (Rule rule : rules) {
                if (rule.in && rule.doubted) {
                    doubted.add(rule);
                }
            }
            int best = -9;
            for (int bits = 0; bits < 1 << doubted.size(); bits++) {
                for (int k = 0; k < doubted.size(); k++) {
                    doubted.get(k).in = (bits & 1 << k) == 0;
                }
                if (!allWorlds().isEmpty() && (best == -9 || Integer.bitCount(bits) < Integer.bitCount(best))) {
                    best = bits;
                }
            }
            for (Rule rule : doubted) {
                rule.in = true;
            }
            return best;
        }

        int judgeNow() {
            int set = 0;
            for (int v : lines) {
                set |= noAtom(v) ? 0 : 1 << v;
            }
            int ahead = 0;
            for (int place = 0; place < lines.size(); place++) {
                int v = lines.get(place);
                if (noAtom(v) || (ahead & 1 << v) != 0) {
                    return place;
                }
                boolean stands = (given & 1 << v) != 0;
                for (Rule rule : rules) {
                    stands |= carriesAt(rule, set, ahead, v);
                }
                if (!stands) {
                    return place;
                }
                ahead |= 1 << v;
            }
            int first = firstBroken(set);
            if (first != -9) {
                return 100 + first;
            }
            return (banned & set) != 0 || (given & ~set) != 0 ? 200 : -9;
        }

        int countOf(int what) {
            if (what >= 11 && what <= 16) {
                return refused[what - 10];
            }
            int[] counts = {n, rules.size(), in().size(), wishes.size(), doubtedCount(), tape.length(), lines.size(),
                given, banned};
            return what >= 0 && what <= 8 ? counts[what] : -9;
        }
    }

    private static int real(HoldWorlds x, String name, int p, int q, long bytes, boolean is) {
        switch (name) {
            case "atoms": return x.atoms(p);
            case "weight": return x.weight(p, q);
            case "feed": return x.feed(p, bytes);
            case "rule": return x.rule();
            case "wish": return x.wish(p, q);
            case "put": return x.put(p, is);
            case "given": return x.given(p, is);
            case "banned": return x.banned(p, is);
            case "ruleOf": return x.ruleOf(p, q);
            case "holds": return x.holds(p, q);
            case "broken": return x.broken(p);
            case "step": return x.step(p, q);
            case "unheld": return x.unheld(p);
            case "world": return x.world(p);
            case "next": return x.next(p);
            case "worlds": return x.worlds();
            case "sure": return x.sure(p);
            case "shown": return x.shown(p);
            case "cost": return x.cost(p, q);
            case "best": return x.best(p);
            case "even": return x.even(p);
            case "bound": return x.bound(p);
            case "why": return x.why(p, q);
            case "whyNot": return x.whyNot(p, q);
            case "doubt": return x.doubt(p, is);
            case "amends": return x.amends();
            case "image": return x.image();
            case "compared": return x.compared(p);
            case "line": return x.line(p);
            case "judge": return x.judge();
            default: return x.count(p);
        }
    }

    /** One run: the calls are drawn, and each is answered by both. */
    private static final class Run {
        final Random random;
        final HoldWorlds real = new HoldWorlds();
        final Model model = new Model();
        final StringBuilder told = new StringBuilder();
        final int enoughRules;
        final int barsIn20;
        int calls = 0;
        int wrong = 0;

        /** Few rules and few bars leave many worlds, many of both leave none: runs of each sort are drawn. */
        Run(long seed) {
            random = new Random(seed);
            enoughRules = below(4) == 0 ? 31 : 2 + below(9);
            barsIn20 = below(4);
        }

        int below(int n) {
            return random.nextInt(n);
        }

        int call(String name, int p, int q, long bytes, boolean is) {
            calls++;
            int want = model.call(name, p, q, bytes, is);
            int got = real(real, name, p, q, bytes, is);
            told.append(name).append(' ').append(p).append(' ').append(q).append(' ').append(is).append(" -> ")
                    .append(want).append('\n');
            if (got != want) {
                wrong++;
                System.out.println(told + "  answered " + got);
            }
            return want;
        }

        void feed(String text) {
            for (int from = 0; from < text.length(); from += 8) {
                int n = Math.min(8, text.length() - from);
                long bytes = random.nextLong() << 8 * (n - 1) << 8;
                for (int i = 0; i < n; i++) {
                    bytes |= (long) (text.charAt(from + i) & 255) << 8 * i;
                }
                call("feed", n, 0, bytes, false);
            }
            told.append("  ").append(text).append('\n');
        }

        String letter() {
            return String.valueOf((char) ('a' + below(model.n)));
        }

        String letters(int n, String between) {
            StringBuilder text = new StringBuilder(letter());
            for (int i = 1; i < n; i++) {
                text.append(between).append(letter());
            }
            return text.toString();
        }

        String body() {
            int n = below(12) == 0 ? 1 + below(8) : 1 + below(3);
            StringBuilder text = new StringBuilder();
            for (int i = 0; i < n; i++) {
                int kind = below(7);
                text.append(i == 0 ? "" : ",");
                text.append(kind < 3 ? letter() : kind < 6 ? "!" + letter()
                        : "[" + letters(1 + below(3), "+") + "<" + below(below(4) == 0 ? 200 : 4) + "]");
            }
            return text.toString();
        }

        String ruleText() {
            int kind = below(20);
            String head = kind >= 20 - barsIn20 ? "" : kind < 9 ? letter() : kind < 13 ? letters(2 + below(3), "|")
                    : "{" + letters(1 + below(6), ",") + "}";
            if (head.startsWith("{") && below(2) == 0) {
                int low = below(3);
                head += low + "-" + (low + below(3) - (below(8) == 0 ? 1 : 0) + 1) % 10;
            }
            String text = head.isEmpty() || below(4) > 0 ? head + ":" + body() : head;
            return text.length() > 60 ? text.substring(0, 60) : text;
        }

        String spoilt(String text) {
            String signs = "abcdefjkl|{}[]<+-,:!0123456789 A\u0000\u00ff";
            char sign = signs.charAt(below(signs.length()));
            int place = below(text.length() + 1);
            switch (below(4)) {
                case 0: return text.substring(0, place);
                case 1: return text.length() < 60 ? text.substring(0, place) + sign + text.substring(place) : text;
                case 2: return place < text.length() ? text.substring(0, place) + text.substring(place + 1) : text;
                default: return place < text.length() ? text.substring(0, place) + sign + text.substring(place + 1) : text;
            }
        }

        int set() {
            return below(15) == 0 ? below(1 << model.n + 1) - 3 : below(1 << model.n);
        }

        int likelyWorld() {
            TreeSet<Integer> all = model.allWorlds();
            return all.isEmpty() || below(3) == 0 ? set() : new ArrayList<>(all).get(below(all.size()));
        }

        int atom() {
            return below(12) == 0 ? below(13) - 1 : below(model.n);
        }

        int rule() {
            return below(15) == 0 || model.rules.isEmpty() ? below(34) - 2 : below(model.rules.size());
        }

        void change() {
            switch (below(9)) {
                case 0: case 1:
                    feed(below(4) == 0 || model.rules.size() >= enoughRules ? spoilt(ruleText()) : ruleText());
                    if (model.rules.size() < enoughRules || model.fault(model.tape) >= 0) {
                        call("rule", 0, 0, 0, false);
                    } else {
                        call("wish", below(4), 1 + below(4), 0, false);
                    }
                    break;
                case 2:
                    feed(below(4) == 0 ? spoilt(":" + body()) : ":" + body());
                    call("wish", below(10) == 0 ? below(7) - 1 : below(4), below(10) == 0 ? below(3) * 50 : 1 + below(4), 0, false);
                    break;
                case 3: case 4: call("put", rule(), 0, 0, below(3) > 0); break;
                case 5: call("given", atom(), 0, 0, below(4) == 0); break;
                case 6: call("banned", atom(), 0, 0, below(4) == 0); break;
                case 7: call("weight", atom(), below(10) == 0 ? below(120) - 10 : below(5), 0, false); break;
                default: call("doubt", rule(), 0, 0, below(4) > 0); break;
            }
        }

        void ask() {
            String[] ofSet = {"broken", "unheld", "world", "next", "shown", "even"};
            String[] ofWhat = {"sure", "best", "bound", "compared"};
            String[] ofBoth = {"step", "why", "whyNot"};
            switch (below(12)) {
                case 0: case 1: call(ofSet[below(6)], likelyWorld(), 0, 0, false); break;
                case 2: case 3: call(ofWhat[below(4)], below(10) == 0 ? below(5) - 1 : below(2), 0, 0, false); break;
                case 4: case 5: call(ofBoth[below(3)], likelyWorld(), atom(), 0, false); break;
                case 6: call("holds", rule(), set(), 0, false); break;
                case 7: call("ruleOf", rule(), below(7) - 1, 0, false); break;
                case 8: call("cost", likelyWorld(), below(6) - 1, 0, false); break;
                case 9: call("count", below(19) - 1, 0, 0, false); break;
                case 10: call(below(3) == 0 ? "image" : "worlds", 0, 0, 0, false); break;
                default: judge(); break;
            }
            if (below(12) == 0) {
                call("amends", 0, 0, 0, false);
            }
            if (below(25) == 0) {
                call("atoms", below(13) - 1, 0, 0, false);
            }
        }

        /** Rows that follow the steps of a world are judged to their end; others fail ahead. */
        void judge() {
            int set = likelyWorld();
            if (!model.noSet(set) && below(4) > 0) {
                int[] steps = model.steps(set);
                for (int step = -9; step <= model.n; step++) {
                    for (int a = 0; a < model.n; a++) {
                        if ((set & 1 << a) != 0 && steps[a] == step) {
                            call("line", a, 0, 0, false);
                        }
                    }
                }
            }
            for (int i = below(3); i > 0; i--) {
                call("line", below(6) == 0 ? below(300) - 150 : below(model.n), 0, 0, false);
            }
            call("judge", 0, 0, 0, false);
        }

        int play(int atoms, int rounds) {
            call("atoms", atoms, 0, 0, false);
            for (int i = below(4); i >= 0; i--) {
                feed(ruleText());
                call("rule", 0, 0, 0, false);
            }
            for (int i = 0; i < rounds && calls < 490 && wrong == 0; i++) {
                if (below(5) < 2) {
                    change();
                } else {
                    ask();
                }
            }
            return wrong;
        }
    }

    public static void main(String[] args) {
        int runs = args.length > 0 ? Integer.parseInt(args[0]) : 400;
        long first = args.length > 1 ? Long.parseLong(args[1]) : 1L;
        int wrong = 0;
        for (int i = 0; i < runs && wrong < 3; i++) {
            int atoms = i % 40 == 39 ? 8 + i / 40 % 3 : 1 + i % 6;
            wrong += new Run(first + i).play(atoms, atoms >= 8 ? 60 : 200);
        }
        System.out.println(wrong == 0 ? runs + " runs are answered as by the model" : wrong + " runs differ");
        if (wrong != 0) {
            System.exit(1);
        }
    }
}
