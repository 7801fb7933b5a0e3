import java.lang.reflect.Method;
import java.lang.reflect.Modifier;
import java.util.ArrayList;
import java.util.Arrays;
import java.util.Comparator;
import java.util.List;
import java.util.function.Supplier;
import java.util.function.ToIntFunction;

/** What the tests share: a test is a static method without parameters, and runAll runs each of a class. */
abstract class Told {
    private static final int[] NUMBERS = {-1, -2, -3, -4, -5, -6};
    private static String running = "";
    private static int wrong = 0;
    private static int wrongHere = 0;

    /** A loop that goes wrong would tell the same again and again: a few of each test are enough. */
    static void due(String what, int got, int want) {
        if (got != want) {
            wrong++;
            wrongHere++;
            if (wrongHere <= 5) {
                System.out.println(running + ": " + what + ": answered " + got + ", due is " + want);
            }
        }
    }

    static void due(int got, int want) {
        due("the call", got, want);
    }

    static void must(String what, boolean so) {
        due(what, so ? 1 : 0, 1);
    }

    static void runAll(Class<?> tests) throws ReflectiveOperationException {
        Method[] all = tests.getDeclaredMethods();
        Arrays.sort(all, Comparator.comparing(Method::getName));
        int ran = 0;
        for (Method one : all) {
            boolean isTest = Modifier.isStatic(one.getModifiers()) && !Modifier.isPrivate(one.getModifiers())
                    && one.getParameterCount() == 0;
            if (isTest) {
                running = one.getName();
                wrongHere = 0;
                one.invoke(null);
                ran++;
            }
        }
        System.out.println(wrong == 0 ? ran + " tests hold" : wrong + " answers are not as due");
        if (wrong != 0 || ran == 0) {
            System.exit(1);
        }
    }

    /** Bytes come eight at a time; the answer is that of the last feed. */
    static int feed(HoldWorlds x, String text) {
        int last = 0;
        for (int from = 0; from < text.length(); from += 8) {
            int n = Math.min(8, text.length() - from);
            long bytes = 0;
            for (int i = 0; i < n; i++) {
                bytes |= (long) (text.charAt(from + i) & 255) << (8 * i);
            }
            last = x.feed(n, bytes);
        }
        return last;
    }

    static int rule(HoldWorlds x, String text) {
        feed(x, text);
        return x.rule();
    }

    static int wish(HoldWorlds x, String text, int rank, int cost) {
        feed(x, text);
        return x.wish(rank, cost);
    }

    static int judged(HoldWorlds x, int... row) {
        for (int v : row) {
            x.line(v);
        }
        return x.judge();
    }

    static HoldWorlds of(String... texts) {
        return ofAtoms(4, texts);
    }

    static HoldWorlds ofAtoms(int atoms, String... texts) {
        HoldWorlds x = new HoldWorlds();
        x.atoms(atoms);
        for (String text : texts) {
            must("a rule: " + text, rule(x, text) >= 0);
        }
        return x;
    }

    static String times(int n, String text, String between) {
        StringBuilder all = new StringBuilder(text);
        for (int i = 1; i < n; i++) {
            all.append(between).append(text);
        }
        return all.toString();
    }

    /** An object in which something of each kind is told, so that whatever a call changes can be seen. */
    static HoldWorlds busy() {
        HoldWorlds x = of("{a,b}0-1", "c:a,!b", "d|a:c", ":b,[a+c<1],!d", "b:b");
        x.weight(0, 3);
        x.weight(3, 99);
        wish(x, ":a,[c+d<4]", 2, 7);
        wish(x, ":!a", 0, 50);
        x.image();
        x.put(4, false);
        x.doubt(0, true);
        x.doubt(3, true);
        x.given(2, true);
        x.banned(1, true);
        x.line(2);
        x.line(-7);
        feed(x, "a:c");
        return x;
    }

    static HoldWorlds full() {
        HoldWorlds x = new HoldWorlds();
        for (int i = 0; i < 30; i++) {
            rule(x, i == 7 ? "{a,b}" : "c:a");
        }
        for (int i = 0; i < 20; i++) {
            wish(x, ":b", i % 4, i + 1);
        }
        for (int i = 0; i < 6; i++) {
            x.doubt(5 * i, true);
        }
        for (int i = 0; i < 12; i++) {
            x.line(i % 3);
        }
        feed(x, ":a,[b<9]");
        return x;
    }

    /** All that can be asked, in one row; it uses the object up, for the tape and the lines are read by use. */
    static List<Integer> everything(HoldWorlds x) {
        List<Integer> all = new ArrayList<>();
        for (int what = 0; what <= 8; what++) {
            all.add(x.count(what));
        }
        int last = (1 << x.count(0)) - 1;
        int rules = x.count(1);
        for (int r = 0; r < rules; r++) {
            for (int what = 0; what <= 4; what++) {
                all.add(x.ruleOf(r, what));
            }
        }
        for (int set : new int[] {0, 1, 2, 5 & last, last - 1, last}) {
            all.addAll(List.of(x.broken(set), x.unheld(set), x.world(set), x.shown(set), x.why(set, 0)));
            for (int rank = 0; rank <= 3; rank++) {
                all.add(x.cost(set, rank));
            }
        }
        int world = x.next(-1);
        for (int i = 0; i < 16 && world >= 0; i++) {
            all.add(world);
            world = x.next(world);
        }
        for (int what = 0; what <= 1; what++) {
            all.addAll(List.of(x.sure(what), x.best(what), x.bound(what), x.compared(what)));
        }
        all.addAll(List.of(x.amends(), x.judge()));
        readTape(x, all);
        for (int r = 0; r < rules; r++) {
            all.add(x.doubt(r, false));
        }
        for (int atom = 0; atom < x.count(0); atom++) {
            all.add(x.weight(atom, 50));
        }
        return all;
    }

    private static void readTape(HoldWorlds x, List<Integer> all) {
        int number = x.rule();
        all.add(number);
        for (int what = 0; what <= 3; what++) {
            all.add(x.ruleOf(number, what));
        }
        all.add(x.wish(0, 1));
        all.add(x.cost(1, 0));
    }

    /** Each call is refused with the number, which is counted once; all else is as in one that had no such call. */
    @SafeVarargs
    static void refused(int number, Supplier<HoldWorlds> made, ToIntFunction<HoldWorlds>... calls) {
        for (ToIntFunction<HoldWorlds> call : calls) {
            answersAndLeaves(number, made, call);
            countsOnce(number, made, call);
        }
    }

    private static void countsOnce(int number, Supplier<HoldWorlds> made, ToIntFunction<HoldWorlds> call) {
        HoldWorlds x = made.get();
        int[] before = refusals(x);
        call.applyAsInt(x);
        int[] after = refusals(x);
        for (int i = 0; i < NUMBERS.length; i++) {
            due("counted " + NUMBERS[i], after[i] - before[i], NUMBERS[i] == number ? 1 : 0);
        }
    }

    /** The call answers and changes nothing at all, no refusals either. */
    static void leavesAll(int answer, Supplier<HoldWorlds> made, ToIntFunction<HoldWorlds> call) {
        answersAndLeaves(answer, made, call);
        HoldWorlds x = made.get();
        int[] before = refusals(x);
        call.applyAsInt(x);
        must("no refusal is counted", Arrays.equals(before, refusals(x)));
    }

    private static void answersAndLeaves(int answer, Supplier<HoldWorlds> made, ToIntFunction<HoldWorlds> call) {
        HoldWorlds x = made.get();
        due(call.applyAsInt(x), answer);
        List<Integer> left = everything(x);
        List<Integer> untouched = everything(made.get());
        must("nothing changes: " + left + " was " + untouched, left.equals(untouched));
    }

    static int[] refusals(HoldWorlds x) {
        int[] all = new int[NUMBERS.length];
        for (int i = 0; i < NUMBERS.length; i++) {
            all[i] = x.count(10 - NUMBERS[i]);
        }
        return all;
    }
}
