import java.util.ArrayList;
import java.util.Arrays;

/**
 * Worlds told by rules, and all ways in which such a world holds together and holds itself up.
 * The face looks at arguments and refuses; Theory knows what the words of the document mean.
 */
public final class HoldWorlds {
    private static final int NONE = -9;
    private static final int NOBODY = -1;
    private static final int OTHER = -2;
    private static final int STATE = -3;
    private static final int BELOW_LEAST = -4;
    private static final int ROOM = -6;
    private static final int FAULT = -20;

    private static final int MOST_ATOMS = 10;
    private static final int FIRST_ATOMS = 4;
    private static final int MOST_SETS = 1 << MOST_ATOMS;
    private static final int MOST_WEIGHT = 99;
    private static final int MOST_FEED = 8;
    private static final int MOST_TAPE = 60;
    private static final int MOST_RULES = 30;
    private static final int MOST_WISHES = 20;
    private static final int MOST_RANK = 3;
    private static final int MOST_COST = 99;
    private static final int MOST_DOUBTED = 6;
    private static final int MOST_LINE = 12;

    private static final int MOST_OR = 4;
    private static final int MOST_LETTERS = 6;
    private static final int MOST_PARTS = 8;
    private static final int MOST_DIGITS = 3;

    private static final int ONE = 1;
    private static final int OR = 2;
    private static final int CHOICE = 3;
    private static final int BAR = 4;

    private static final int PLAIN = 0;
    private static final int NOT = 1;
    private static final int FEW = 2;

    private static final int CARRIED_AS_GIVEN = 90;
    private static final int JUDGED_BROKEN = 100;
    private static final int JUDGED_GIVEN = 200;

    /** All costs of one rank together stay below this: 20 wishes of 99. */
    private static final long COST_BASE = 2048L;

    /** What a row answers behind its end: no byte, signed or not, is that. */
    private static final int NO_BYTE = -1000;

    private final Theory theory;
    private final ArrayList<Wish> wishes;
    private final Row tape;
    private final Row lines;
    private final Family imageSets;
    private boolean imageTaken;
    private final Family seenParts;
    private final int[] refusals;

    public HoldWorlds() {
        theory = new Theory();
        wishes = new ArrayList<>();
        tape = new Row(MOST_TAPE);
        lines = new Row(MOST_LINE);
        imageSets = new Family();
        imageTaken = false;
        seenParts = new Family();
        refusals = new int[7];
    }

    public int atoms(int n) {
        if (n < 1) {
            return refuse(BELOW_LEAST);
        }
        if (n > MOST_ATOMS) {
            return refuse(ROOM);
        }
        if (theory.ruleCount() > 0 || !wishes.isEmpty() || theory.isToldBeyond(n)) {
            return refuse(STATE);
        }
        return theory.changeAtoms(n);
    }

    public int weight(int atom, int v) {
        if (!theory.isAtom(atom)) {
            return refuse(NOBODY);
        }
        if (v < 0) {
            return refuse(BELOW_LEAST);
        }
        if (v > MOST_WEIGHT) {
            return refuse(ROOM);
        }
        return theory.changeWeight(atom, v);
    }

    public int feed(int n, long bytes) {
        if (n < 1) {
            return refuse(BELOW_LEAST);
        }
        if (n > MOST_FEED || tape.length() + n > MOST_TAPE) {
            return refuse(ROOM);
        }
        for (int i = 0; i < n; i++) {
            tape.append((int) (bytes >> (8 * i)) & 255);
        }
        return tape.length();
    }

    public int rule() {
        if (theory.ruleCount() >= MOST_RULES) {
            return refuse(ROOM);
        }
        Reader reader = new Reader(tape, theory.atomCount());
        Rule read = reader.readRule();
        tape.empty();
        if (read == null) {
            return FAULT - reader.faultPlace();
        }
        return theory.addRule(read);
    }

    public int wish(int rank, int cost) {
        if (rank < 0 || cost < 1) {
            return refuse(BELOW_LEAST);
        }
        if (rank > MOST_RANK || cost > MOST_COST || wishes.size() >= MOST_WISHES) {
            return refuse(ROOM);
        }
        Reader reader = new Reader(tape, theory.atomCount());
        Rule read = reader.readBar();
        tape.empty();
        if (read == null) {
            return FAULT - reader.faultPlace();
        }
        wishes.add(new Wish(read.body, rank, cost));
        return wishes.size() - 1;
    }

    public int put(int rule, boolean in) {
        if (!theory.isRule(rule)) {
            return refuse(NOBODY);
        }
        return theory.changeIn(rule, in) ? 1 : 0;
    }

    public int given(int atom, boolean is) {
        if (!theory.isAtom(atom)) {
            return refuse(NOBODY);
        }
        if (hasBit(theory.bannedBits(), atom)) {
            return refuse(STATE);
        }
        return theory.changeGiven(atom, is) ? 1 : 0;
    }

    public int banned(int atom, boolean is) {
        if (!theory.isAtom(atom)) {
            return refuse(NOBODY);
        }
        if (hasBit(theory.givenBits(), atom)) {
            return refuse(STATE);
        }
        return theory.changeBanned(atom, is) ? 1 : 0;
    }

    public int ruleOf(int rule, int what) {
        Rule asked = theory.ruleAt(rule);
        if (asked == null) {
            return refuse(NOBODY);
        }
        switch (what) {
            case 0:
                return asked.kind;
            case 1:
                return asked.headBits;
            case 2:
                return asked.body.needBits;
            case 3:
                return asked.body.notBits;
            case 4:
                return hasBit(theory.inBits(), rule) ? 1 : 0;
            default:
                return refuse(OTHER);
        }
    }

    public int holds(int rule, int set) {
        Rule asked = theory.ruleAt(rule);
        if (asked == null || !theory.isSet(set)) {
            return refuse(NOBODY);
        }
        return theory.bodyHolds(asked.body, set) ? 1 : 0;
    }

    public int broken(int set) {
        if (!theory.isSet(set)) {
            return refuse(NOBODY);
        }
        return theory.firstBroken(set);
    }

    public int step(int set, int atom) {
        if (!theory.isSet(set) || !theory.isAtom(atom)) {
            return refuse(NOBODY);
        }
        return theory.stepOf(set, atom);
    }

    public int unheld(int set) {
        if (!theory.isSet(set)) {
            return refuse(NOBODY);
        }
        return set & ~theory.allCarried(set, theory.liveRules(set));
    }

    public int world(int set) {
        if (!theory.isSet(set)) {
            return refuse(NOBODY);
        }
        return theory.isWorld(set) ? 1 : 0;
    }

    public int next(int set) {
        if (set != -1 && !theory.isSet(set)) {
            return refuse(NOBODY);
        }
        Family now = theory.worldsNow();
        for (int x = set + 1; x < theory.setCount(); x++) {
            if (now.has(x)) {
                return x;
            }
        }
        return NONE;
    }

    public int worlds() {
        return theory.worldsNow().howMany();
    }

    public int sure(int what) {
        if (what < 0 || what > 1) {
            return refuse(OTHER);
        }
        Family now = theory.worldsNow();
        if (now.howMany() == 0) {
            return NONE;
        }
        int inAll = MOST_SETS - 1;
        int inSome = 0;
        for (int x = 0; x < theory.setCount(); x++) {
            if (now.has(x)) {
                inAll &= x;
                inSome |= x;
            }
        }
        return what == 0 ? inAll : inSome;
    }

    public int shown(int set) {
        if (!theory.isSet(set)) {
            return refuse(NOBODY);
        }
        Family now = theory.worldsNow();
        seenParts.empty();
        for (int x = 0; x < theory.setCount(); x++) {
            if (now.has(x)) {
                seenParts.include(x & set);
            }
        }
        return seenParts.howMany();
    }

    public int cost(int set, int rank) {
        if (!theory.isSet(set)) {
            return refuse(NOBODY);
        }
        if (rank < 0) {
            return refuse(BELOW_LEAST);
        }
        if (rank > MOST_RANK) {
            return refuse(ROOM);
        }
        return paid(set, rank);
    }

    public int best(int what) {
        if (what < 0 || what > 1) {
            return refuse(OTHER);
        }
        Family now = theory.worldsNow();
        int least = leastPaid(now);
        if (least == NONE || what == 0) {
            return least;
        }
        return likeCosts(now, least);
    }

    public int even(int set) {
        if (!theory.isSet(set)) {
            return refuse(NOBODY);
        }
        Family now = theory.worldsNow();
        if (!now.has(set)) {
            return refuse(STATE);
        }
        return likeCosts(now, set);
    }

    public int bound(int what) {
        if (what < 0 || what > 1) {
            return refuse(OTHER);
        }
        return theory.boundary(what == 0);
    }

    public int why(int set, int atom) {
        if (!theory.isSet(set) || !theory.isAtom(atom)) {
            return refuse(NOBODY);
        }
        return theory.carrierOf(set, atom);
    }

    public int whyNot(int set, int atom) {
        if (!theory.isSet(set) || !theory.isAtom(atom)) {
            return refuse(NOBODY);
        }
        return theory.firstFailing(set, atom);
    }

    public int doubt(int rule, boolean is) {
        if (!theory.isRule(rule)) {
            return refuse(NOBODY);
        }
        int doubted = theory.doubtedBits();
        if (is && !hasBit(doubted, rule) && Integer.bitCount(doubted) >= MOST_DOUBTED) {
            return refuse(ROOM);
        }
        return theory.changeDoubted(rule, is) ? 1 : 0;
    }

    public int amends() {
        return theory.fewestOut();
    }

    public int image() {
        imageSets.copyFrom(theory.worldsNow());
        imageTaken = true;
        return imageSets.howMany();
    }

    public int compared(int what) {
        if (what < 0 || what > 1) {
            return refuse(OTHER);
        }
        if (!imageTaken) {
            return refuse(STATE);
        }
        Family now = theory.worldsNow();
        return what == 0 ? firstOnlyIn(now, imageSets) : firstOnlyIn(imageSets, now);
    }

    public int line(int v) {
        if (v < -128) {
            return refuse(BELOW_LEAST);
        }
        if (v > 127 || lines.length() >= MOST_LINE) {
            return refuse(ROOM);
        }
        lines.append(v);
        return lines.length();
    }

    public int judge() {
        int judged = theory.judgement(lines);
        lines.empty();
        return judged;
    }

    public int count(int what) {
        switch (what) {
            case 0:
                return theory.atomCount();
            case 1:
                return theory.ruleCount();
            case 2:
                return Integer.bitCount(theory.inBits());
            case 3:
                return wishes.size();
            case 4:
                return Integer.bitCount(theory.doubtedBits());
            case 5:
                return tape.length();
            case 6:
                return lines.length();
            case 7:
                return theory.givenBits();
            case 8:
                return theory.bannedBits();
            default:
                return refusalsOf(what - 10);
        }
    }

    private int refuse(int number) {
        int place = -number;
        if (place >= 0 && place < refusals.length) {
            refusals[place]++;
        }
        return number;
    }

    private int refusalsOf(int place) {
        return place >= 1 && place < refusals.length ? refusals[place] : NONE;
    }

    private int paid(int set, int rank) {
        int sum = 0;
        for (int w = 0; w < wishes.size(); w++) {
            Wish one = wishes.get(w);
            if (one.rank == rank && theory.bodyHolds(one.body, set)) {
                sum += one.price;
            }
        }
        return sum;
    }

    /** One number that is ordered as the costs of all ranks are, the highest rank first. */
    private long paidInAll(int set) {
        long all = 0L;
        for (int rank = MOST_RANK; rank >= 0; rank--) {
            all = all * COST_BASE + paid(set, rank);
        }
        return all;
    }

    private int leastPaid(Family now) {
        int least = NONE;
        long leastPrice = 0L;
        for (int x = 0; x < theory.setCount(); x++) {
            if (now.has(x)) {
                long price = paidInAll(x);
                if (least == NONE || price < leastPrice) {
                    least = x;
                    leastPrice = price;
                }
            }
        }
        return least;
    }

    private int likeCosts(Family now, int set) {
        long price = paidInAll(set);
        int like = 0;
        for (int x = 0; x < theory.setCount(); x++) {
            if (now.has(x) && paidInAll(x) == price) {
                like++;
            }
        }
        return like;
    }

    /** Through all sets that there can be: the image may be of more atoms than there are now. */
    private static int firstOnlyIn(Family these, Family others) {
        for (int x = 0; x < MOST_SETS; x++) {
            if (these.has(x) && !others.has(x)) {
                return x;
            }
        }
        return NONE;
    }

    private static boolean hasBit(int bits, int place) {
        return (bits >> place & 1) != 0;
    }

    private static int withBit(int bits, int place, boolean is) {
        return is ? bits | 1 << place : bits & ~(1 << place);
    }

    /** The parts of a whole one behind the other, from 0 on: borrowing runs through the whole's bits alone. */
    private static int partBehind(int part, int whole) {
        return (part - whole) & whole;
    }

    /** A row of bytes with a greatest length. */
    private static final class Row {
        private final int[] bytes;
        private int size;

        Row(int most) {
            bytes = new int[Math.max(most, 0)];
            size = 0;
        }

        int length() {
            return size;
        }

        int at(int place) {
            return place >= 0 && place < size && place < bytes.length ? bytes[place] : NO_BYTE;
        }

        void append(int value) {
            if (size >= 0 && size < bytes.length) {
                bytes[size] = value;
                size++;
            }
        }

        void empty() {
            size = 0;
        }
    }

    /** Some sets of atoms, a bit each. */
    private static final class Family {
        private final int[] words;

        Family() {
            words = new int[MOST_SETS / 32];
        }

        boolean has(int set) {
            int word = set >> 5;
            return word >= 0 && word < words.length && (words[word] >> (set & 31) & 1) != 0;
        }

        void include(int set) {
            int word = set >> 5;
            if (word >= 0 && word < words.length) {
                words[word] |= 1 << (set & 31);
            }
        }

        void empty() {
            Arrays.fill(words, 0);
        }

        void copyFrom(Family other) {
            for (int i = 0; i < words.length && i < other.words.length; i++) {
                words[i] = other.words[i];
            }
        }

        int howMany() {
            int sum = 0;
            for (int i = 0; i < words.length; i++) {
                sum += Integer.bitCount(words[i]);
            }
            return sum;
        }
    }

    /** One part of a body; its letters are kept as they stand, for one that stands twice weighs twice. */
    private static final class Part {
        private final int kind;
        private final int[] letters;
        private final int bits;
        private final int limit;

        Part(int kind, int[] letters, int limit) {
            this.kind = kind;
            this.letters = letters;
            this.bits = bitsOf(letters);
            this.limit = limit;
        }

        boolean isSo(int set, int[] weights) {
            switch (kind) {
                case PLAIN:
                    return (bits & ~set) == 0;
                case NOT:
                    return (bits & set) == 0;
                default:
                    return weightIn(set, weights) < limit;
            }
        }

        int weightIn(int set, int[] weights) {
            int sum = 0;
            for (int i = 0; i < letters.length; i++) {
                int atom = letters[i];
                if (atom >= 0 && atom < weights.length && (set & 1 << atom) != 0) {
                    sum += weights[atom];
                }
            }
            return sum;
        }
    }

    private static int bitsOf(int[] letters) {
        int bits = 0;
        for (int i = 0; i < letters.length; i++) {
            bits |= 1 << letters[i];
        }
        return bits;
    }

    private static final class Body {
        private final ArrayList<Part> parts;
        private int needBits;
        private int notBits;
        private boolean hasFew;

        Body() {
            parts = new ArrayList<>();
            needBits = 0;
            notBits = 0;
            hasFew = false;
        }

        void include(Part part) {
            parts.add(part);
            if (part.kind == PLAIN) {
                needBits |= part.bits;
            } else if (part.kind == NOT) {
                notBits |= part.bits;
            } else {
                hasFew = true;
            }
        }

        /** Its atoms are looked for in one set, those with "!" and "[" in another: the bounds need two. */
        boolean isSo(int come, int others, int[] weights) {
            if ((needBits & ~come) != 0 || (notBits & others) != 0) {
                return false;
            }
            for (int p = 0; hasFew && p < parts.size(); p++) {
                Part part = parts.get(p);
                if (part.kind == FEW && part.weightIn(others, weights) >= part.limit) {
                    return false;
                }
            }
            return true;
        }

        int firstPartNotSo(int set, int[] weights) {
            for (int p = 0; p < parts.size(); p++) {
                if (!parts.get(p).isSo(set, weights)) {
                    return p;
                }
            }
            return NONE;
        }
    }

    private static final class Rule {
        private final int kind;
        private final int[] head;
        private final int headBits;
        private final Body body;
        private final int low;
        private final int high;

        Rule(int kind, int[] head, Body body, int low, int high) {
            this.kind = kind;
            this.head = head;
            this.headBits = bitsOf(head);
            this.body = body;
            this.low = low;
            this.high = high;
        }

        /** Asked of a set in which the body holds. */
        boolean headFails(int set) {
            switch (kind) {
                case BAR:
                    return true;
                case CHOICE:
                    return isOutsideRange(set);
                default:
                    return (headBits & set) == 0;
            }
        }

        private boolean isOutsideRange(int set) {
            int chosen = 0;
            for (int i = 0; i < head.length; i++) {
                if (hasBit(set, head[i])) {
                    chosen++;
                }
            }
            return chosen < low || chosen > high;
        }

        /** What it carries in a set in which its body holds, when some atoms are carried already. */
        int carriesIn(int set, int carried) {
            if ((body.needBits & ~carried) != 0) {
                return 0;
            }
            int mine = headBits & set;
            return kind == OR && Integer.bitCount(mine) > 1 ? 0 : mine;
        }

        /** Whether a lesser set, too, has what this rule asks of it; its body holds in the set. */
        boolean contents(int lesser, int set) {
            if (kind == BAR || (body.needBits & ~lesser) != 0) {
                return true;
            }
            if (kind == CHOICE) {
                return (headBits & set & ~lesser) == 0;
            }
            return (headBits & lesser) != 0;
        }
    }

    private static final class Wish {
        private final Body body;
        private final int rank;
        private final int price;

        Wish(Body body, int rank, int price) {
            this.body = body;
            this.rank = rank;
            this.price = price;
        }
    }

    /** Reads a rule off a row; from the first fault on it takes nothing more, so its place stays there. */
    private static final class Reader {
        private final Row text;
        private final int atomCount;
        private int place;
        private boolean faulty;
        private int low;
        private int high;

        Reader(Row text, int atomCount) {
            this.text = text;
            this.atomCount = atomCount;
            this.place = 0;
            this.faulty = false;
            this.low = 0;
            this.high = MOST_LETTERS;
        }

        int faultPlace() {
            return place;
        }

        /** The rule, or null if the text has a fault. */
        Rule readRule() {
            int kind = BAR;
            int[] head = new int[0];
            if (take('{')) {
                kind = CHOICE;
                head = readLetters(',', MOST_LETTERS);
                demand('}');
                readRange();
            } else if (text.at(place) != ':') {
                head = readLetters('|', MOST_OR);
                kind = head.length == 1 ? ONE : OR;
            }
            Body body = new Body();
            if (take(':')) {
                readBody(body);
            }
            if (place < text.length()) {
                faulty = true;
            }
            return faulty ? null : new Rule(kind, head, body, low, high);
        }

        /** A bar alone, or null. */
        Rule readBar() {
            return text.at(place) == ':' ? readRule() : null;
        }

        private void readRange() {
            int sign = text.at(place);
            if (sign >= '0' && sign <= '9') {
                low = readDigit();
                demand('-');
                high = readDigit();
            }
        }

        private void readBody(Body body) {
            for (int n = 1; n <= MOST_PARTS; n++) {
                body.include(readPart());
                if (n == MOST_PARTS || !take(',')) {
                    return;
                }
            }
        }

        private Part readPart() {
            if (take('!')) {
                return new Part(NOT, readLetters('!', 1), 0);
            }
            if (take('[')) {
                int[] letters = readLetters('+', MOST_LETTERS);
                demand('<');
                int limit = readNumber();
                demand(']');
                return new Part(FEW, letters, limit);
            }
            return new Part(PLAIN, readLetters(',', 1), 0);
        }

        /** Letters with a sign between them; the sign behind the last that may stand is left where it is. */
        private int[] readLetters(char between, int most) {
            int[] letters = new int[Math.max(most, 1)];
            int n = 0;
            for (int i = 0; i < letters.length; i++) {
                letters[i] = readAtom();
                n = i + 1;
                if (n == most || !take(between)) {
                    break;
                }
            }
            return Arrays.copyOf(letters, n);
        }

        private int readAtom() {
            int atom = text.at(place) - 'a';
            if (faulty || atom < 0 || atom >= atomCount) {
                faulty = true;
                return 0;
            }
            place++;
            return atom;
        }

        private int readNumber() {
            int number = readDigit();
            for (int n = 1; n < MOST_DIGITS; n++) {
                int sign = text.at(place);
                if (sign < '0' || sign > '9') {
                    break;
                }
                number = number * 10 + readDigit();
            }
            return number;
        }

        private int readDigit() {
            int digit = text.at(place) - '0';
            if (faulty || digit < 0 || digit > 9) {
                faulty = true;
                return 0;
            }
            place++;
            return digit;
        }

        private boolean take(char sign) {
            if (faulty || text.at(place) != sign) {
                return false;
            }
            place++;
            return true;
        }

        private void demand(char sign) {
            if (!take(sign)) {
                faulty = true;
            }
        }
    }

    /** The rules, what is told of atoms, and what follows from both. */
    private static final class Theory {
        private final ArrayList<Rule> rules;
        private final int[] weights;
        private int atomCount;
        private int given;
        private int banned;
        private int in;
        private int doubted;
        private final Family found;
        private boolean foundIsOld;

        Theory() {
            rules = new ArrayList<>();
            weights = new int[MOST_ATOMS];
            Arrays.fill(weights, 1);
            atomCount = FIRST_ATOMS;
            given = 0;
            banned = 0;
            in = 0;
            doubted = 0;
            found = new Family();
            foundIsOld = true;
        }

        int atomCount() {
            return atomCount;
        }

        int ruleCount() {
            return rules.size();
        }

        int givenBits() {
            return given;
        }

        int bannedBits() {
            return banned;
        }

        int inBits() {
            return in;
        }

        int doubtedBits() {
            return doubted;
        }

        boolean isAtom(int atom) {
            return atom >= 0 && atom < atomCount;
        }

        boolean isRule(int number) {
            return number >= 0 && number < rules.size();
        }

        int setCount() {
            return 1 << atomCount;
        }

        boolean isSet(int set) {
            return set >= 0 && set < 1 << atomCount;
        }

        /** The rule of a number, or null if there is none. */
        Rule ruleAt(int number) {
            return isRule(number) ? rules.get(number) : null;
        }

        boolean isToldBeyond(int n) {
            return (given | banned) >> n != 0;
        }

        int changeAtoms(int n) {
            int before = atomCount;
            atomCount = n;
            foundIsOld = true;
            return before;
        }

        int changeWeight(int atom, int weight) {
            if (atom < 0 || atom >= weights.length) {
                return NOBODY;
            }
            int before = weights[atom];
            weights[atom] = weight;
            foundIsOld = true;
            return before;
        }

        int addRule(Rule one) {
            int number = rules.size();
            rules.add(one);
            in = withBit(in, number, true);
            foundIsOld = true;
            return number;
        }

        boolean changeIn(int number, boolean is) {
            boolean differs = hasBit(in, number) != is;
            in = withBit(in, number, is);
            foundIsOld = foundIsOld || differs;
            return differs;
        }

        boolean changeGiven(int atom, boolean is) {
            boolean differs = hasBit(given, atom) != is;
            given = withBit(given, atom, is);
            foundIsOld = foundIsOld || differs;
            return differs;
        }

        boolean changeBanned(int atom, boolean is) {
            boolean differs = hasBit(banned, atom) != is;
            banned = withBit(banned, atom, is);
            foundIsOld = foundIsOld || differs;
            return differs;
        }

        boolean changeDoubted(int number, boolean is) {
            boolean differs = hasBit(doubted, number) != is;
            doubted = withBit(doubted, number, is);
            return differs;
        }

        boolean bodyHolds(Body body, int set) {
            return body.isSo(set, set, weights);
        }

        /** The rules that are in and whose body holds in a set, as bits. */
        int liveRules(int set) {
            int live = 0;
            for (int r = 0; r < rules.size(); r++) {
                if (hasBit(in, r) && rules.get(r).body.isSo(set, set, weights)) {
                    live |= 1 << r;
                }
            }
            return live;
        }

        int firstBroken(int set) {
            for (int r = 0; r < rules.size(); r++) {
                Rule one = rules.get(r);
                if (hasBit(in, r) && one.headFails(set) && one.body.isSo(set, set, weights)) {
                    return r;
                }
            }
            return NONE;
        }

        private int brokenOf(int set, int live) {
            int broken = 0;
            for (int r = 0; r < rules.size(); r++) {
                if (hasBit(live, r) && rules.get(r).headFails(set)) {
                    broken |= 1 << r;
                }
            }
            return broken;
        }

        private int carriedNext(int set, int live, int carried) {
            int more = given & set;
            for (int r = 0; r < rules.size(); r++) {
                if (hasBit(live, r)) {
                    more |= rules.get(r).carriesIn(set, carried);
                }
            }
            return more;
        }

        int allCarried(int set, int live) {
            int carried = 0;
            for (int n = 1; n <= MOST_ATOMS && carried != set; n++) {
                int more = carried | carriedNext(set, live, carried);
                if (more == carried) {
                    break;
                }
                carried = more;
            }
            return carried;
        }

        int stepOf(int set, int atom) {
            int live = liveRules(set);
            int carried = 0;
            for (int n = 1; n <= MOST_ATOMS; n++) {
                carried |= carriedNext(set, live, carried);
                if (hasBit(carried, atom)) {
                    return n;
                }
            }
            return NONE;
        }

        int carrierOf(int set, int atom) {
            if (hasBit(given & set, atom)) {
                return CARRIED_AS_GIVEN;
            }
            int live = liveRules(set);
            int carried = 0;
            for (int n = 1; n <= MOST_ATOMS; n++) {
                int more = carriedNext(set, live, carried);
                if (hasBit(more, atom)) {
                    return firstCarrying(set, live, carried, atom);
                }
                carried |= more;
            }
            return NONE;
        }

        private int firstCarrying(int set, int live, int carried, int atom) {
            for (int r = 0; r < rules.size(); r++) {
                if (hasBit(live, r) && hasBit(rules.get(r).carriesIn(set, carried), atom)) {
                    return r;
                }
            }
            return NONE;
        }

        int firstFailing(int set, int atom) {
            for (int r = 0; r < rules.size(); r++) {
                Rule one = rules.get(r);
                if (hasBit(in, r) && hasBit(one.headBits, atom) && !bodyHolds(one.body, set)) {
                    return 10 * r + one.body.firstPartNotSo(set, weights);
                }
            }
            return NONE;
        }

        private boolean fitsTold(int set) {
            return (given & ~set) == 0 && (banned & set) == 0;
        }

        /**
         * Asked of a set that has all given atoms and breaks none of the live rules. Every lesser set that
         * would do has all that is carried; and if no rule is an OR, what is carried is one that would do.
         * So to look for a lesser set above what is carried is right with an OR and without one.
         */
        private boolean isHeld(int set, int live) {
            int carried = allCarried(set, live);
            return carried == set || !hasLesser(set, live, carried);
        }

        private boolean hasLesser(int set, int live, int carried) {
            int free = set & ~carried;
            int ways = 1 << Integer.bitCount(free);
            int part = 0;
            for (int n = 0; n < ways - 1; n++) {
                if (contentsAll(carried | part, set, live)) {
                    return true;
                }
                part = partBehind(part, free);
            }
            return false;
        }

        private boolean contentsAll(int lesser, int set, int live) {
            for (int r = 0; r < rules.size(); r++) {
                if (hasBit(live, r) && !rules.get(r).contents(lesser, set)) {
                    return false;
                }
            }
            return true;
        }

        boolean isWorld(int set) {
            if (!fitsTold(set) || firstBroken(set) != NONE) {
                return false;
            }
            return isHeld(set, liveRules(set));
        }

        /** The worlds are sought once and kept till something changes that they hang on. */
        Family worldsNow() {
            if (foundIsOld) {
                found.empty();
                for (int x = 0; x < setCount(); x++) {
                    if (isWorld(x)) {
                        found.include(x);
                    }
                }
                foundIsOld = false;
            }
            return found;
        }

        int boundary(boolean wantsBelow) {
            int below = 0;
            int above = setCount() - 1;
            // Each round but the last takes an atom into below or out of above.
            for (int n = 0; n <= 2 * MOST_ATOMS + 1; n++) {
                int newBelow = comesStepwise(above, true);
                int newAbove = comesStepwise(newBelow, false);
                if (newBelow == below && newAbove == above) {
                    break;
                }
                below = newBelow;
                above = newAbove;
            }
            return wantsBelow ? below : above;
        }

        private int comesStepwise(int others, boolean oneAtomAlone) {
            int come = given;
            for (int n = 0; n <= MOST_ATOMS; n++) {
                int before = come;
                for (int r = 0; r < rules.size(); r++) {
                    Rule one = rules.get(r);
                    boolean counts = hasBit(in, r) && (one.kind == ONE || !oneAtomAlone);
                    if (counts && one.body.isSo(come, others, weights)) {
                        come |= one.headBits;
                    }
                }
                if (come == before) {
                    break;
                }
            }
            return come;
        }

        int fewestOut() {
            int best = NONE;
            for (int x = 0; x < setCount() && best != 0; x++) {
                if (fitsTold(x)) {
                    best = fewestOutFor(x, best);
                }
            }
            return best;
        }

        /** The best of what was found and what makes this set a world. */
        private int fewestOutFor(int set, int soFar) {
            int all = in & doubted;
            int live = liveRules(set);
            int broken = brokenOf(set, live);
            if ((broken & ~all) != 0) {
                return soFar;
            }
            int best = soFar;
            int ways = 1 << Integer.bitCount(all);
            int out = 0;
            for (int bits = 0; bits < ways; bits++) {
                boolean mends = isFewer(bits, best) && (broken & ~out) == 0;
                if (mends && isHeld(set, live & ~out)) {
                    best = bits;
                }
                out = partBehind(out, all);
            }
            return best;
        }

        private static boolean isFewer(int bits, int best) {
            if (best == NONE) {
                return true;
            }
            int fewer = Integer.compare(Integer.bitCount(bits), Integer.bitCount(best));
            return fewer < 0 || fewer == 0 && bits < best;
        }

        int judgement(Row row) {
            int set = atomsIn(row);
            int live = liveRules(set);
            int ahead = 0;
            for (int i = 0; i < row.length(); i++) {
                int atom = row.at(i);
                if (!isAtom(atom) || hasBit(ahead, atom) || !hasBit(carriedNext(set, live, ahead), atom)) {
                    return i;
                }
                ahead = withBit(ahead, atom, true);
            }
            int first = firstBroken(set);
            if (first != NONE) {
                return JUDGED_BROKEN + first;
            }
            return fitsTold(set) ? NONE : JUDGED_GIVEN;
        }

        private int atomsIn(Row row) {
            int set = 0;
            for (int i = 0; i < row.length(); i++) {
                int atom = row.at(i);
                if (isAtom(atom)) {
                    set = withBit(set, atom, true);
                }
            }
            return set;
        }
    }
}
