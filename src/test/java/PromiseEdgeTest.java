import java.util.function.Supplier;
import java.util.function.ToIntFunction;

/** The edges of the promises 1 to 32: for each answer below 0, each least and greatest, a test of its own. */
public final class PromiseEdgeTest extends Told {
    private static final int LEAST = Integer.MIN_VALUE;
    private static final int MOST = Integer.MAX_VALUE;

    private static HoldWorlds fresh() {
        return new HoldWorlds();
    }

    private static HoldWorlds hopeless() {
        HoldWorlds x = busy();
        feed(x, ",d");
        x.rule();
        rule(x, ":!a");
        rule(x, ":a");
        return x;
    }

    private static HoldWorlds tapeOf(int bytes) {
        HoldWorlds x = of("{a,b}");
        for (int i = 0; i < bytes; i++) {
            x.feed(1, 'a');
        }
        return x;
    }

    private static HoldWorlds linesOf(int bytes) {
        HoldWorlds x = of("{a,b}");
        for (int i = 0; i < bytes; i++) {
            x.line(0);
        }
        return x;
    }

    @SafeVarargs
    private static void refusedInBusy(int number, ToIntFunction<HoldWorlds>... calls) {
        refused(number, Told::busy, calls);
    }

    @SafeVarargs
    private static void refusedInFull(int number, ToIntFunction<HoldWorlds>... calls) {
        refused(number, Told::full, calls);
    }

    @SafeVarargs
    private static void refusedInFresh(int number, ToIntFunction<HoldWorlds>... calls) {
        refused(number, HoldWorlds::new, calls);
    }

    // Promise 1

    static void p01FourAtoms() {
        due(fresh().count(0), 4);
        due("the greatest set", fresh().world(15), 0);
        due("one more", fresh().world(16), -1);
        due("the last atom", fresh().weight(3, 1), 1);
        due("one more", fresh().weight(4, 1), -1);
    }

    static void p01NoRules() {
        due(fresh().count(1), 0);
        due("in", fresh().count(2), 0);
        due("rule 0", fresh().ruleOf(0, 0), -1);
    }

    static void p01NothingElse() {
        for (int what = 3; what <= 8; what++) {
            due("count " + what, fresh().count(what), 0);
        }
        for (int n : refusals(fresh())) {
            due("refusals", n, 0);
        }
        due("image", fresh().compared(0), -3);
        due("cost", fresh().cost(15, 0), 0);
    }

    static void p01ObjectsHaveNothingInCommon() {
        HoldWorlds x = fresh();
        full();
        busy();
        p01Untouched(x);
    }

    private static void p01Untouched(HoldWorlds x) {
        int[] want = {4, 0, 0, 0, 0, 0, 0, 0, 0};
        for (int what = 0; what < want.length; what++) {
            due("count " + what, x.count(what), want[what]);
        }
        due("worlds", x.worlds(), 1);
        due("weight", x.weight(3, 1), 1);
    }

    // Promise 2

    static void p02AnswersWhatItWas() {
        HoldWorlds x = fresh();
        due("first", x.atoms(7), 4);
        due("then", x.atoms(7), 7);
        due("as it is", x.atoms(4), 7);
    }

    static void p02LeastIs1() {
        HoldWorlds x = fresh();
        due(x.atoms(1), 4);
        due("so many", x.count(0), 1);
        due("sets", x.world(2), -1);
    }

    static void p02GreatestIs10() {
        HoldWorlds x = fresh();
        due(x.atoms(10), 4);
        due("so many", x.count(0), 10);
        due("the last set", x.world(1023), 0);
        due("no set", x.world(1024), -1);
    }

    static void p02BelowIsRefused() {
        refusedInFresh(-4, x -> x.atoms(0), x -> x.atoms(-1), x -> x.atoms(LEAST));
    }

    static void p02AboveIsRefused() {
        refusedInFresh(-6, x -> x.atoms(11), x -> x.atoms(32), x -> x.atoms(MOST));
    }

    static void p02RulesAreRefused() {
        refused(-3, () -> of("a"), x -> x.atoms(5));
        refused(-3, () -> of("a"), x -> x.atoms(4));
        refused(-3, () -> of("a"), x -> x.atoms(3));
    }

    static void p02RulesThatAreOutAreRefused() {
        refused(-3, () -> {
            HoldWorlds x = of("a");
            x.put(0, false);
            return x;
        }, x -> x.atoms(5));
    }

    private static HoldWorlds withWish() {
        HoldWorlds x = fresh();
        wish(x, ":a", 0, 1);
        return x;
    }

    static void p02WishesAreRefused() {
        refused(-3, PromiseEdgeTest::withWish, x -> x.atoms(5));
        refused(-3, PromiseEdgeTest::withWish, x -> x.atoms(4));
    }

    static void p02AFaultIsNoRuleAndNoWish() {
        HoldWorlds x = fresh();
        rule(x, "a|");
        wish(x, ":a,", 0, 1);
        due(x.atoms(5), 4);
    }

    private static HoldWorlds withGiven() {
        HoldWorlds x = fresh();
        x.given(2, true);
        return x;
    }

    private static HoldWorlds withBanned() {
        HoldWorlds x = fresh();
        x.banned(2, true);
        return x;
    }

    static void p02AGivenOneThatWouldGoIsRefused() {
        refused(-3, PromiseEdgeTest::withGiven, x -> x.atoms(2));
        refused(-3, PromiseEdgeTest::withGiven, x -> x.atoms(1));
    }

    static void p02AGivenOneThatStaysIsNot() {
        due("just as many", withGiven().atoms(3), 4);
        due("as it is", withGiven().atoms(4), 4);
        due("more", withGiven().atoms(10), 4);
    }

    static void p02ABannedOneThatWouldGoIsRefused() {
        refused(-3, PromiseEdgeTest::withBanned, x -> x.atoms(2));
        refused(-3, PromiseEdgeTest::withBanned, x -> x.atoms(1));
    }

    static void p02ABannedOneThatStaysIsNot() {
        due("just as many", withBanned().atoms(3), 4);
        due("more", withBanned().atoms(10), 4);
    }

    static void p02NoMoreGivenOrBannedMayGo() {
        HoldWorlds x = withGiven();
        x.given(2, false);
        due("given", x.atoms(1), 4);
        HoldWorlds y = withBanned();
        y.banned(2, false);
        due("banned", y.atoms(1), 4);
    }

    static void p02TheLastOfTenWouldGo() {
        HoldWorlds x = fresh();
        x.atoms(10);
        x.given(9, true);
        due("nine", x.atoms(9), -3);
        due("ten", x.atoms(10), 10);
    }

    static void p02BelowComesBeforeState() {
        refusedInBusy(-4, x -> x.atoms(0), x -> x.atoms(LEAST));
        refused(-4, PromiseEdgeTest::withGiven, x -> x.atoms(0));
    }

    static void p02AboveComesBeforeState() {
        refusedInBusy(-6, x -> x.atoms(11), x -> x.atoms(MOST));
        refused(-6, PromiseEdgeTest::withWish, x -> x.atoms(11));
    }

    // Promise 3

    static void p03LeastIs0() {
        HoldWorlds x = fresh();
        due("told", x.weight(0, 0), 1);
        due("kept", x.weight(0, 1), 0);
        due("told again", x.weight(0, 1), 1);
    }

    static void p03GreatestIs99() {
        HoldWorlds x = fresh();
        due("told", x.weight(3, 99), 1);
        due("kept", x.weight(3, 98), 99);
        due("one less", x.weight(3, 99), 98);
    }

    static void p03NoSuchAtomIsRefused() {
        refusedInBusy(-1, x -> x.weight(4, 5), x -> x.weight(-1, 5), x -> x.weight(9, 5), x -> x.weight(LEAST, 5),
                x -> x.weight(MOST, 5));
    }

    static void p03OneOfTenAndNoEleventh() {
        HoldWorlds x = ofAtoms(10);
        due("the tenth", x.weight(9, 5), 1);
        due("the eleventh", x.weight(10, 5), -1);
    }

    static void p03BelowIsRefused() {
        refusedInBusy(-4, x -> x.weight(0, -1), x -> x.weight(3, LEAST));
    }

    static void p03AboveIsRefused() {
        refusedInBusy(-6, x -> x.weight(0, 100), x -> x.weight(3, MOST));
    }

    static void p03NobodyComesBeforeBelow() {
        refusedInBusy(-1, x -> x.weight(4, -1), x -> x.weight(-1, LEAST));
    }

    static void p03NobodyComesBeforeAbove() {
        refusedInBusy(-1, x -> x.weight(4, 100), x -> x.weight(-1, MOST));
    }

    // Promise 4

    static void p04LeastIs1() {
        HoldWorlds x = fresh();
        due(x.feed(1, 'a'), 1);
        due("that byte", x.rule(), 0);
    }

    static void p04GreatestIs8() {
        HoldWorlds x = fresh();
        due(x.feed(8, 0x622c622c622c3a61L), 8);
        due("all eight came, the highest last", x.rule(), -20 - 2);
        due("seven", x.feed(7, 0x62622c623a61L), 7);
    }

    static void p04TheLowestComesFirst() {
        HoldWorlds x = fresh();
        x.feed(3, 0x623a61L);
        due("a:b", x.rule(), 0);
        due("its head", x.ruleOf(0, 1), 1);
        due("its body", x.ruleOf(0, 2), 2);
    }

    static void p04BytesAboveNAreNoMatter() {
        HoldWorlds x = fresh();
        x.feed(1, 0x7fffffffffffff61L);
        due("a", x.rule(), 0);
        x.feed(1, -1L << 8 | 'b');
        due("b", x.rule(), 1);
    }

    static void p04TheHighestByteMayHaveItsHighestBit() {
        HoldWorlds x = fresh();
        due(x.feed(8, Long.MIN_VALUE | 0x3a61L), 8);
        due("the zero behind a:", x.rule(), -22);
        due(x.feed(8, -1L), 8);
        due("255 is no letter", x.rule(), -20);
    }

    static void p04TheNextBytesStandBehind() {
        HoldWorlds x = fresh();
        x.feed(2, 0x3a61L);
        due(x.feed(2, 0x6221L), 4);
        due("a:!b", x.rule(), 0);
        due("its body", x.ruleOf(0, 3), 2);
    }

    static void p04BelowIsRefused() {
        refusedInBusy(-4, x -> x.feed(0, 'a'), x -> x.feed(-1, 'a'), x -> x.feed(LEAST, 'a'));
    }

    static void p04NineIsRefused() {
        refusedInBusy(-6, x -> x.feed(9, 'a'), x -> x.feed(64, 'a'), x -> x.feed(MOST, 'a'));
    }

    static void p04SixtyAreRoom() {
        due("one by one", tapeOf(60).count(5), 60);
        HoldWorlds x = tapeOf(52);
        due("at once", x.feed(8, 0), 60);
        due("59", tapeOf(58).feed(1, 0), 59);
    }

    static void p04SixtyOneAreRefused() {
        refused(-6, () -> tapeOf(60), x -> x.feed(1, 'a'));
        refused(-6, () -> tapeOf(53), x -> x.feed(8, 'a'));
        refused(-6, () -> tapeOf(59), x -> x.feed(2, 'a'));
    }

    static void p04NoneOfRefusedBytesCome() {
        HoldWorlds x = tapeOf(59);
        due("two", x.feed(2, 0x6161L), -6);
        due("as it was", x.count(5), 59);
        due("one", x.feed(1, 'a'), 60);
    }

    static void p04BelowComesBeforeAFullTape() {
        refused(-4, () -> tapeOf(60), x -> x.feed(0, 'a'));
        refused(-4, () -> tapeOf(60), x -> x.feed(LEAST, 'a'));
    }

    static void p04NineOnAFullTapeIsOneRefusal() {
        refused(-6, () -> tapeOf(60), x -> x.feed(9, 'a'));
    }

    // Promise 5

    static void p05NumbersFrom0() {
        HoldWorlds x = fresh();
        due("first", rule(x, "a"), 0);
        due("second", rule(x, "a"), 1);
        due("counted", x.count(1), 2);
    }

    static void p05TheTapeHasNoneThen() {
        HoldWorlds x = fresh();
        rule(x, "a:b");
        due(x.count(5), 0);
        due("nothing is left on it", x.rule(), -20);
    }

    static void p05AFaultIs20LessItsPlace() {
        due("at 0", rule(fresh(), "?"), -20);
        due("at 1", rule(fresh(), "a?"), -21);
        due("at 59", rule(fresh(), "a:" + times(3, "[a+b+c+d+a+b<999]", ",") + ",!b,?"), -20 - 59);
    }

    static void p05OfAFaultNothingIsCounted() {
        HoldWorlds x = busy();
        int[] before = refusals(x);
        int rules = x.count(1);
        int in = x.count(2);
        feed(x, "?");
        due(x.rule(), -23);
        due("rules", x.count(1), rules);
        due("in", x.count(2), in);
        must("refusals", java.util.Arrays.equals(before, refusals(x)));
    }

    static void p05OfAFaultTheTapeHasNone() {
        HoldWorlds x = fresh();
        rule(x, "a:b,");
        due(x.count(5), 0);
        due("the next is read from its own start", rule(x, "a"), 0);
    }

    static void p05AFaultDoesNotTakeANumber() {
        HoldWorlds x = fresh();
        rule(x, "?");
        due(rule(x, "a"), 0);
    }

    static void p05AnEmptyTapeLacksAtItsEnd() {
        due(fresh().rule(), -20);
    }

    static void p05ThirtyIsTheLast() {
        HoldWorlds x = fresh();
        for (int i = 0; i < 28; i++) {
            rule(x, "a");
        }
        due("the 29th", rule(x, "b"), 28);
        due("the 30th", rule(x, "c"), 29);
        due("so many", x.count(1), 30);
        due("the 31st", rule(x, "d"), -6);
        due("so many", x.count(1), 30);
        due("the last is kept", x.ruleOf(29, 1), 4);
    }

    static void p05AThirtyFirstIsRefusedAndTheTapeStays() {
        refusedInFull(-6, x -> x.rule());
        HoldWorlds x = full();
        x.rule();
        due("bytes", x.count(5), 8);
    }

    static void p05TheTapeThatStayedIsStillThatText() {
        HoldWorlds x = fresh();
        for (int i = 0; i < 30; i++) {
            rule(x, "a");
        }
        feed(x, ":b,!c");
        due("refused", x.rule(), -6);
        due("a wish", x.wish(1, 9), 0);
        due("its body holds", x.cost(2, 1), 9);
        due("its body does not", x.cost(6, 1), 0);
    }

    static void p05RoomComesBeforeAFault() {
        refused(-6, () -> {
            HoldWorlds x = full();
            feed(x, "??");
            return x;
        }, x -> x.rule());
    }

    static void p05RoomComesBeforeAnEmptyTape() {
        HoldWorlds x = fresh();
        for (int i = 0; i < 30; i++) {
            rule(x, "a");
        }
        due(x.rule(), -6);
        due("counted", x.count(16), 1);
    }

    static void p05PutOutMakesNoRoom() {
        HoldWorlds x = full();
        x.put(0, false);
        due(x.rule(), -6);
    }

    static void p05TwentyWishesAreNoMatter() {
        HoldWorlds x = fresh();
        for (int i = 0; i < 20; i++) {
            wish(x, ":a", 0, 1);
        }
        due(rule(x, "a"), 0);
    }

    // Promise 6

    static void p06NumbersFrom0() {
        HoldWorlds x = fresh();
        due("first", wish(x, ":a", 0, 1), 0);
        due("second", wish(x, ":a", 0, 1), 1);
        due("counted", x.count(3), 2);
        due("no rules", x.count(1), 0);
    }

    static void p06TheTapeHasNoneThen() {
        HoldWorlds x = fresh();
        wish(x, ":a", 0, 1);
        due(x.count(5), 0);
    }

    static void p06RanksFrom0To3() {
        for (int rank = 0; rank <= 3; rank++) {
            HoldWorlds x = fresh();
            due("rank " + rank, wish(x, ":a", rank, 1), 0);
            for (int other = 0; other <= 3; other++) {
                due("cost in " + other, x.cost(1, other), other == rank ? 1 : 0);
            }
        }
    }

    static void p06CostsFrom1To99() {
        for (int cost : new int[] {1, 2, 98, 99}) {
            HoldWorlds x = fresh();
            due("cost " + cost, wish(x, ":a", 0, cost), 0);
            due("paid", x.cost(1, 0), cost);
        }
    }

    static void p06ARankBelowIsRefused() {
        refusedInBusy(-4, x -> x.wish(-1, 1), x -> x.wish(LEAST, 1));
    }

    static void p06ACostBelowIsRefused() {
        refusedInBusy(-4, x -> x.wish(0, 0), x -> x.wish(0, -1), x -> x.wish(3, LEAST));
    }

    static void p06ARankAboveIsRefused() {
        refusedInBusy(-6, x -> x.wish(4, 1), x -> x.wish(MOST, 1));
    }

    static void p06ACostAboveIsRefused() {
        refusedInBusy(-6, x -> x.wish(0, 100), x -> x.wish(3, MOST));
    }

    static void p06BelowComesBeforeAbove() {
        refusedInBusy(-4, x -> x.wish(-1, 100), x -> x.wish(4, 0), x -> x.wish(LEAST, MOST), x -> x.wish(MOST, LEAST));
    }

    static void p06BothBelowIsOneRefusal() {
        refusedInBusy(-4, x -> x.wish(-1, 0));
    }

    static void p06BothAboveIsOneRefusal() {
        refusedInBusy(-6, x -> x.wish(4, 100));
    }

    static void p06TwentyIsTheLast() {
        HoldWorlds x = fresh();
        for (int i = 0; i < 18; i++) {
            wish(x, ":a", 0, 1);
        }
        due("the 19th", wish(x, ":b", 1, 1), 18);
        due("the 20th", wish(x, ":c", 2, 7), 19);
        due("the 21st", wish(x, ":d", 3, 1), -6);
        due("so many", x.count(3), 20);
        due("the last is paid", x.cost(4, 2), 7);
        due("the refused is not", x.cost(8, 3), 0);
    }

    static void p06ATwentyFirstIsRefusedAndTheTapeStays() {
        refusedInFull(-6, x -> x.wish(0, 1), x -> x.wish(3, 99));
        HoldWorlds x = full();
        x.wish(0, 1);
        due("bytes", x.count(5), 8);
    }

    static void p06BelowComesBeforeTwenty() {
        refusedInFull(-4, x -> x.wish(-1, 1), x -> x.wish(0, 0));
    }

    static void p06AboveAndTwentyIsOneRefusal() {
        refusedInFull(-6, x -> x.wish(4, 1), x -> x.wish(0, 100), x -> x.wish(4, 100));
    }

    static void p06RefusalsComeBeforeAFault() {
        Supplier<HoldWorlds> faulty = () -> {
            HoldWorlds x = fresh();
            feed(x, ":a,,");
            return x;
        };
        refused(-4, faulty, x -> x.wish(-1, 1));
        refused(-4, faulty, x -> x.wish(0, 0));
        refused(-6, faulty, x -> x.wish(4, 1));
        refused(-6, faulty, x -> x.wish(0, 100));
    }

    static void p06TwentyComesBeforeAFault() {
        refused(-6, () -> {
            HoldWorlds x = full();
            feed(x, "??");
            return x;
        }, x -> x.wish(0, 1));
    }

    static void p06AFaultIs20LessItsPlace() {
        due("in its body", wish(fresh(), ":a?", 0, 1), -22);
        due("it lacks", wish(fresh(), ":", 0, 1), -21);
        due("at its end", wish(fresh(), ":a,", 0, 1), -23);
        due("one part too many", wish(fresh(), ":" + times(9, "a", ","), 0, 1), -20 - 16);
    }

    static void p06WithoutTheSignItsFaultIsAt0() {
        due("an atom", wish(fresh(), "a", 0, 1), -20);
        due("a body", wish(fresh(), "a:b", 0, 1), -20);
        due("or", wish(fresh(), "a|b", 0, 1), -20);
        due("choice", wish(fresh(), "{a}", 0, 1), -20);
        due("a fault further on", wish(fresh(), "a?", 0, 1), -20);
        due("a fault at 0", wish(fresh(), "?:a", 0, 1), -20);
        due("nothing", fresh().wish(0, 1), -20);
    }

    static void p06OfAFaultNothingIsCountedAndTheTapeHasNone() {
        HoldWorlds x = fresh();
        wish(x, "a", 0, 1);
        wish(x, ":a,", 0, 1);
        due("wishes", x.count(3), 0);
        due("tape", x.count(5), 0);
        for (int n : refusals(x)) {
            due("refusals", n, 0);
        }
        due("no number is taken", wish(x, ":a", 0, 1), 0);
    }

    static void p06ThirtyRulesAreNoMatter() {
        HoldWorlds x = fresh();
        for (int i = 0; i < 30; i++) {
            rule(x, "a");
        }
        due(wish(x, ":a", 0, 1), 0);
    }

    // Promise 7

    static void p07OutAndIn() {
        HoldWorlds x = of("a");
        due("out", x.put(0, false), 1);
        due("is out", x.ruleOf(0, 4), 0);
        due("in", x.put(0, true), 1);
        due("is in", x.ruleOf(0, 4), 1);
    }

    static void p07ItWasSo() {
        leavesAll(0, Told::busy, x -> x.put(0, true));
        leavesAll(0, Told::busy, x -> x.put(4, false));
    }

    static void p07NoSuchRuleIsRefused() {
        refusedInBusy(-1, x -> x.put(5, true), x -> x.put(5, false), x -> x.put(-1, false), x -> x.put(LEAST, false),
                x -> x.put(MOST, false), x -> x.put(32, false));
        refusedInFull(-1, x -> x.put(30, false), x -> x.put(31, false), x -> x.put(32, false));
    }

    static void p07WithoutRulesNoneIs() {
        refusedInFresh(-1, x -> x.put(0, false), x -> x.put(0, true));
    }

    static void p07TheLastOfThirty() {
        HoldWorlds x = full();
        due("out", x.put(29, false), 1);
        due("so many in", x.count(2), 29);
        due("the first is in", x.ruleOf(0, 4), 1);
    }

    static void p07AllOut() {
        HoldWorlds x = full();
        for (int r = 0; r < 30; r++) {
            due("out " + r, x.put(r, false), 1);
        }
        due("none in", x.count(2), 0);
        due("all are there", x.count(1), 30);
        due("the empty world", x.next(-1), 0);
        due("and no other", x.next(0), -9);
    }

    // Promise 8

    static void p08GivenAndNotAnyMore() {
        HoldWorlds x = fresh();
        due("given", x.given(3, true), 1);
        due("bits", x.count(7), 8);
        due("no more", x.given(3, false), 1);
        due("bits", x.count(7), 0);
    }

    static void p08ItWasSo() {
        leavesAll(0, Told::busy, x -> x.given(2, true));
        leavesAll(0, Told::busy, x -> x.given(0, false));
    }

    static void p08NoSuchAtomIsRefused() {
        refusedInBusy(-1, x -> x.given(4, true), x -> x.given(-1, true), x -> x.given(4, false), x -> x.given(32, true),
                x -> x.given(LEAST, true), x -> x.given(MOST, false));
    }

    static void p08ABannedOneIsRefused() {
        refusedInBusy(-3, x -> x.given(1, true));
    }

    static void p08ABannedOneIsRefusedNotAnyMoreToo() {
        refusedInBusy(-3, x -> x.given(1, false));
    }

    static void p08AllOfTen() {
        HoldWorlds x = ofAtoms(10);
        for (int atom = 0; atom < 10; atom++) {
            due("atom " + atom, x.given(atom, true), 1);
        }
        due("bits", x.count(7), 1023);
        due("the world", x.next(-1), 1023);
        due("no more", x.next(1023), -9);
    }

    // Promise 9

    static void p09BannedAndNotAnyMore() {
        HoldWorlds x = fresh();
        due("banned", x.banned(3, true), 1);
        due("bits", x.count(8), 8);
        due("no more", x.banned(3, false), 1);
        due("bits", x.count(8), 0);
    }

    static void p09ItWasSo() {
        leavesAll(0, Told::busy, x -> x.banned(1, true));
        leavesAll(0, Told::busy, x -> x.banned(0, false));
    }

    static void p09NoSuchAtomIsRefused() {
        refusedInBusy(-1, x -> x.banned(4, true), x -> x.banned(-1, true), x -> x.banned(4, false),
                x -> x.banned(33, true), x -> x.banned(LEAST, true), x -> x.banned(MOST, false));
    }

    static void p09AGivenOneIsRefused() {
        refusedInBusy(-3, x -> x.banned(2, true));
    }

    static void p09AGivenOneIsRefusedNotAnyMoreToo() {
        refusedInBusy(-3, x -> x.banned(2, false));
    }

    static void p09AllOfTen() {
        HoldWorlds x = ofAtoms(10, "{a,b,c,d,e,f}", "{g,h,i,j}");
        for (int atom = 0; atom < 10; atom++) {
            due("atom " + atom, x.banned(atom, true), 1);
        }
        due("bits", x.count(8), 1023);
        due("the empty world alone", x.worlds(), 1);
    }

    static void p09OnceGivenThenBanned() {
        HoldWorlds x = fresh();
        x.given(0, true);
        due("given", x.banned(0, true), -3);
        x.given(0, false);
        due("no more", x.banned(0, true), 1);
        due("banned", x.given(0, true), -3);
        x.banned(0, false);
        due("no more", x.given(0, true), 1);
    }

    // Promise 10

    static void p10Kinds() {
        HoldWorlds x = of("a", "a:b", "a|b", "{a}", "{a,b}1-2:c", ":a");
        int[] want = {1, 1, 2, 3, 3, 4};
        for (int r = 0; r < want.length; r++) {
            due("rule " + r, x.ruleOf(r, 0), want[r]);
        }
    }

    static void p10AllAtomsOfItsHead() {
        HoldWorlds x = ofAtoms(10, "j", "a|j|b|i", "{e,f,g,h,i,j}", ":a", "a|a");
        int[] want = {512, 771, 1008, 0, 1};
        for (int r = 0; r < want.length; r++) {
            due("rule " + r, x.ruleOf(r, 1), want[r]);
        }
    }

    static void p10AtomsOfItsBody() {
        HoldWorlds x = ofAtoms(10, "a", "a:j", "a:!j,[i<1]", "a:a,b,c,d,g,h,i,j", ":!a,!b,!c,!d,!g,!h,!i,!j");
        int[] plain = {0, 512, 0, 975, 0};
        int[] not = {0, 0, 512, 0, 975};
        for (int r = 0; r < plain.length; r++) {
            due("rule " + r + " without", x.ruleOf(r, 2), plain[r]);
            due("rule " + r + " with", x.ruleOf(r, 3), not[r]);
        }
    }

    static void p10AnAtomBothWithAndWithout() {
        HoldWorlds x = of(":a,!a");
        due("without", x.ruleOf(0, 2), 1);
        due("with", x.ruleOf(0, 3), 1);
    }

    static void p10NoSuchRuleIsRefused() {
        refusedInBusy(-1, x -> x.ruleOf(5, 0), x -> x.ruleOf(-1, 4), x -> x.ruleOf(LEAST, 0), x -> x.ruleOf(MOST, 0));
        refusedInFull(-1, x -> x.ruleOf(30, 0));
        refusedInFresh(-1, x -> x.ruleOf(0, 0));
    }

    static void p10AnotherWhatIsRefused() {
        refusedInBusy(-2, x -> x.ruleOf(0, 5), x -> x.ruleOf(4, -1), x -> x.ruleOf(0, LEAST), x -> x.ruleOf(0, MOST));
    }

    static void p10NobodyComesBeforeOther() {
        refusedInBusy(-1, x -> x.ruleOf(5, 5), x -> x.ruleOf(-1, -1));
    }

    // Promise 11

    static void p11NoSuchRuleIsRefused() {
        refusedInBusy(-1, x -> x.holds(5, 0), x -> x.holds(-1, 0), x -> x.holds(LEAST, 0), x -> x.holds(MOST, 0));
        refusedInFull(-1, x -> x.holds(30, 0));
    }

    static void p11NoSuchSetIsRefused() {
        refusedInBusy(-1, x -> x.holds(0, 16), x -> x.holds(0, -1), x -> x.holds(0, LEAST), x -> x.holds(0, MOST));
    }

    static void p11NeitherIsOneRefusal() {
        refusedInBusy(-1, x -> x.holds(5, 16), x -> x.holds(-1, -1));
    }

    static void p11TheEmptyAndTheFullSet() {
        HoldWorlds x = of("a", "a:!a,!b,!c,!d", "a:a,b,c,d");
        due("no body, none", x.holds(0, 0), 1);
        due("no body, all", x.holds(0, 15), 1);
        due("unless, none", x.holds(1, 0), 1);
        due("unless, one", x.holds(1, 8), 0);
        due("all, all", x.holds(2, 15), 1);
        due("all, one lacks", x.holds(2, 14), 0);
    }

    static void p11OfARuleThatIsOutToo() {
        HoldWorlds x = of("a:b");
        x.put(0, false);
        due("so", x.holds(0, 2), 1);
        due("not so", x.holds(0, 1), 0);
    }

    // Promise 12

    static void p12NoSuchSetIsRefused() {
        refusedInBusy(-1, x -> x.broken(16), x -> x.broken(-1), x -> x.broken(LEAST), x -> x.broken(MOST));
    }

    static void p12None() {
        due("without rules", fresh().broken(15), -9);
        due("all hold", of("a", "b|c").broken(3), -9);
    }

    static void p12TheFirst() {
        HoldWorlds x = of("a", "b", "c");
        due("all three", x.broken(0), 0);
        due("two", x.broken(1), 1);
        due("one", x.broken(3), 2);
    }

    static void p12OutDoesNotCount() {
        HoldWorlds x = of("a", "b");
        x.put(0, false);
        due("the second", x.broken(0), 1);
        x.put(1, false);
        due("none", x.broken(0), -9);
    }

    static void p12TheLastOfThirty() {
        HoldWorlds x = full();
        for (int r = 0; r < 29; r++) {
            x.put(r, false);
        }
        due(x.broken(1), 29);
    }

    static void p12GivenAndBannedHaveNoNumber() {
        HoldWorlds x = fresh();
        x.given(0, true);
        x.banned(1, true);
        due(x.broken(2), -9);
    }

    // Promise 13

    static void p13NoSuchSetIsRefused() {
        refusedInBusy(-1, x -> x.step(16, 0), x -> x.step(-1, 0), x -> x.step(LEAST, 0), x -> x.step(MOST, 0));
    }

    static void p13NoSuchAtomIsRefused() {
        refusedInBusy(-1, x -> x.step(0, 4), x -> x.step(0, -1), x -> x.step(0, LEAST), x -> x.step(0, MOST));
    }

    static void p13NeitherIsOneRefusal() {
        refusedInBusy(-1, x -> x.step(16, 4), x -> x.step(-1, -1));
    }

    static void p13NotInTheSet() {
        due("a rule would", of("a").step(0, 0), -9);
        HoldWorlds x = fresh();
        x.given(0, true);
        due("given", x.step(14, 0), -9);
    }

    static void p13InNoStep() {
        due("no rule", fresh().step(1, 0), -9);
        due("round", of("a:b", "b:a").step(3, 0), -9);
        due("itself", of("a:a").step(1, 0), -9);
    }

    static void p13FromOneToTen() {
        HoldWorlds x = ofAtoms(10, "a", "b:a", "c:b", "d:c", "e:d", "f:e", "g:f", "h:g", "i:h", "j:i");
        for (int atom = 0; atom < 10; atom++) {
            due("atom " + atom, x.step(1023, atom), atom + 1);
        }
        due("the last is cut off", x.step(1023 - 16, 9), -9);
        due("up to the gap", x.step(1023 - 16, 3), 4);
    }

    static void p13TheEarlierOfTwo() {
        HoldWorlds x = of("b", "a:b", "c:b", "a:c", "a");
        due("at once", x.step(7, 0), 1);
        x.put(4, false);
        due("second", x.step(7, 0), 2);
    }

    // Promise 14

    static void p14NoSuchSetIsRefused() {
        refusedInBusy(-1, x -> x.unheld(16), x -> x.unheld(-1), x -> x.unheld(LEAST), x -> x.unheld(MOST));
    }

    static void p14OfNoneNone() {
        due(of("a").unheld(0), 0);
    }

    static void p14NothingIsCarried() {
        due("four", fresh().unheld(15), 15);
        due("ten", ofAtoms(10).unheld(1023), 1023);
    }

    static void p14AllAreCarried() {
        due(ofAtoms(10, "{a,b,c,d,e,f}", "{g,h,i,j}:a").unheld(1023), 0);
    }

    // Promise 15

    static void p15NoSuchSetIsRefused() {
        refusedInBusy(-1, x -> x.world(16), x -> x.world(-1), x -> x.world(LEAST), x -> x.world(MOST));
    }

    static void p15TheEmptySet() {
        due("without rules", fresh().world(0), 1);
        due("of a rule", of("a").world(0), 0);
    }

    static void p15TheFullSet() {
        due("without rules", fresh().world(15), 0);
        due("chosen", of("{a,b,c,d}").world(15), 1);
        due("ten", ofAtoms(10, "{a,b,c,d,e,f}4-6", "{g,h,i,j}4-4").world(1023), 1);
    }

    // Promise 16

    static void p16NoSuchSetIsRefused() {
        refusedInBusy(-1, x -> x.next(16), x -> x.next(MOST));
    }

    static void p16BelowMinus1IsRefused() {
        refusedInBusy(-1, x -> x.next(-2), x -> x.next(LEAST));
    }

    static void p16Minus1IsTheFirstOfAll() {
        due("the empty one", of("{a}").next(-1), 0);
        due("the last one", of("a", "b", "c", "d").next(-1), 15);
        leavesAll(5, Told::busy, x -> x.next(-1));
    }

    static void p16AboveIsNotItself() {
        HoldWorlds x = of("{a,b}");
        due("behind 0", x.next(0), 1);
        due("behind 1", x.next(1), 2);
        due("behind 2", x.next(2), 3);
    }

    static void p16NoneAbove() {
        HoldWorlds x = of("{a,b}");
        due("behind the last", x.next(3), -9);
        due("behind the last set", x.next(15), -9);
        due("of none", of(":!a").next(-1), -9);
    }

    static void p16FromASetThatIsNoWorld() {
        due(of("{d}").next(5), 8);
    }

    static void p16TheLastOfTen() {
        HoldWorlds x = ofAtoms(10, "{a,b,c,d,e,f}", "{g,h,i,j}");
        due("one ahead", x.next(1022), 1023);
        due("itself", x.next(1023), -9);
        due("no set", x.next(1024), -1);
    }

    // Promise 17

    static void p17None() {
        due(of(":!a").worlds(), 0);
    }

    static void p17One() {
        due(fresh().worlds(), 1);
    }

    static void p17All() {
        due("four", of("{a,b,c,d}").worlds(), 16);
        due("ten", ofAtoms(10, "{a,b,c,d,e,f}", "{g,h,i,j}").worlds(), 1024);
        due("one", ofAtoms(1, "{a}").worlds(), 2);
    }

    // Promise 18

    static void p18AnotherWhatIsRefused() {
        refusedInBusy(-2, x -> x.sure(2), x -> x.sure(-1), x -> x.sure(LEAST), x -> x.sure(MOST));
    }

    static void p18NoWorld() {
        leavesAll(-9, PromiseEdgeTest::hopeless, x -> x.sure(0));
        leavesAll(-9, PromiseEdgeTest::hopeless, x -> x.sure(1));
    }

    static void p18OtherComesBeforeNoWorld() {
        refused(-2, PromiseEdgeTest::hopeless, x -> x.sure(2));
    }

    static void p18OneWorldIsBoth() {
        HoldWorlds x = of("a", "d");
        due("sure", x.sure(0), 9);
        due("some", x.sure(1), 9);
    }

    static void p18NoneAndAll() {
        HoldWorlds x = ofAtoms(10, "{a,b,c,d,e,f}", "{g,h,i,j}");
        due("sure", x.sure(0), 0);
        due("some", x.sure(1), 1023);
        for (int atom = 0; atom < 10; atom++) {
            x.given(atom, true);
        }
        due("all sure", x.sure(0), 1023);
    }

    static void p18TheEmptyWorldAlone() {
        due("sure", fresh().sure(0), 0);
        due("some", fresh().sure(1), 0);
    }

    static void p18TheEmptyWorldAmongOthers() {
        HoldWorlds x = of("{b}");
        due("sure", x.sure(0), 0);
        due("some", x.sure(1), 2);
    }

    static void p18TheFullWorldAlone() {
        HoldWorlds x = ofAtoms(10, "{a,b,c,d,e,f}6-6", "{g,h,i,j}4-4");
        due("sure", x.sure(0), 1023);
        due("some", x.sure(1), 1023);
    }

    // Promise 19

    static void p19NoSuchSetIsRefused() {
        refusedInBusy(-1, x -> x.shown(16), x -> x.shown(-1), x -> x.shown(LEAST), x -> x.shown(MOST));
    }

    static void p19ByNoAtoms() {
        due("worlds", of("{a,b}").shown(0), 1);
        due("no world", of(":!a").shown(0), 0);
    }

    static void p19ByAllAtoms() {
        HoldWorlds x = of("{a,b,c,d}2-2");
        due(x.shown(15), 6);
        due("as many as worlds", x.worlds(), 6);
        due("ten", ofAtoms(10, "{a,b,c,d,e,f}", "{g,h,i,j}").shown(1023), 1024);
    }

    static void p19ByOneAtom() {
        HoldWorlds x = of("{a}", "b");
        due("either", x.shown(1), 2);
        due("always", x.shown(2), 1);
        due("never", x.shown(4), 1);
    }

    // Promise 20

    static void p20NoSuchSetIsRefused() {
        refusedInBusy(-1, x -> x.cost(16, 0), x -> x.cost(-1, 0), x -> x.cost(LEAST, 0), x -> x.cost(MOST, 0));
    }

    static void p20ARankBelowIsRefused() {
        refusedInBusy(-4, x -> x.cost(0, -1), x -> x.cost(0, LEAST));
    }

    static void p20ARankAboveIsRefused() {
        refusedInBusy(-6, x -> x.cost(0, 4), x -> x.cost(0, MOST));
    }

    static void p20NobodyComesBeforeBelow() {
        refusedInBusy(-1, x -> x.cost(16, -1), x -> x.cost(-1, LEAST));
    }

    static void p20NobodyComesBeforeAbove() {
        refusedInBusy(-1, x -> x.cost(16, 4), x -> x.cost(-1, MOST));
    }

    static void p20WithoutWishes() {
        for (int rank = 0; rank <= 3; rank++) {
            due("rank " + rank, of("a").cost(15, rank), 0);
        }
    }

    static void p20AllTwentyAtTheGreatest() {
        for (int rank = 0; rank <= 3; rank++) {
            HoldWorlds x = fresh();
            for (int i = 0; i < 20; i++) {
                wish(x, ":a", rank, 99);
            }
            due("rank " + rank, x.cost(1, rank), 1980);
            due("not in it", x.cost(14, rank), 0);
        }
    }

    // Promise 21

    static void p21AnotherWhatIsRefused() {
        refusedInBusy(-2, x -> x.best(2), x -> x.best(-1), x -> x.best(LEAST), x -> x.best(MOST));
    }

    static void p21NoWorld() {
        leavesAll(-9, PromiseEdgeTest::hopeless, x -> x.best(0));
        leavesAll(-9, PromiseEdgeTest::hopeless, x -> x.best(1));
    }

    static void p21OtherComesBeforeNoWorld() {
        refused(-2, PromiseEdgeTest::hopeless, x -> x.best(2));
    }

    static void p21WithoutWishesTheLeast() {
        HoldWorlds x = of("{a,b}1-2");
        due("best", x.best(0), 1);
        due("even", x.best(1), 3);
    }

    static void p21TheLeastMayBeTheEmptyOne() {
        due(of("{a,b}").best(0), 0);
    }

    static void p21ALittleAboveIsMoreThanAllBelow() {
        for (int rank = 1; rank <= 3; rank++) {
            HoldWorlds x = of("{a}");
            wish(x, ":!a", rank, 1);
            for (int i = 1; i < 20; i++) {
                wish(x, ":a", rank - 1, 99);
            }
            due("rank " + rank, x.best(0), 1);
        }
    }

    static void p21OneLessIsLess() {
        HoldWorlds x = of("{a}");
        wish(x, ":a", 3, 98);
        wish(x, ":!a", 3, 99);
        due(x.best(0), 1);
        due("it alone", x.best(1), 1);
    }

    static void p21AllOf1024AreEven() {
        HoldWorlds x = ofAtoms(10, "{a,b,c,d,e,f}", "{g,h,i,j}");
        due("the empty one", x.best(0), 0);
        due("all", x.best(1), 1024);
    }

    // Promise 22

    static void p22NoSuchSetIsRefused() {
        refusedInBusy(-1, x -> x.even(16), x -> x.even(-1), x -> x.even(LEAST), x -> x.even(MOST));
    }

    static void p22NoWorldIsRefused() {
        refusedInBusy(-3, x -> x.even(0), x -> x.even(15));
    }

    static void p22NoWorldAtAllIsRefused() {
        refused(-3, PromiseEdgeTest::hopeless, x -> x.even(5));
    }

    static void p22ItTooIsCounted() {
        due("alone", fresh().even(0), 1);
        HoldWorlds x = of("{a,b}");
        wish(x, ":a", 0, 1);
        wish(x, ":b", 1, 1);
        for (int set = 0; set <= 3; set++) {
            due("set " + set, x.even(set), 1);
        }
    }

    static void p22LikeInAllRanks() {
        HoldWorlds x = of("{a,b}1-1");
        wish(x, ":a", 0, 5);
        due("unlike", x.even(1), 1);
        wish(x, ":b", 0, 5);
        due("like", x.even(1), 2);
        wish(x, ":b", 3, 1);
        due("unlike in another", x.even(1), 1);
    }

    // Promise 23

    static void p23AnotherWhatIsRefused() {
        refusedInBusy(-2, x -> x.bound(2), x -> x.bound(-1), x -> x.bound(LEAST), x -> x.bound(MOST));
    }

    static void p23WithoutRules() {
        due("below", fresh().bound(0), 0);
        due("above", fresh().bound(1), 0);
    }

    static void p23AllGiven() {
        HoldWorlds x = ofAtoms(10);
        for (int atom = 0; atom < 10; atom++) {
            x.given(atom, true);
        }
        due("below", x.bound(0), 1023);
        due("above", x.bound(1), 1023);
    }

    static void p23WithoutAWorldToo() {
        HoldWorlds x = of("a", ":a");
        due("below", x.bound(0), 1);
        due("above", x.bound(1), 1);
    }

    static void p23AsManyRoundsAsThereCanBe() {
        HoldWorlds x = ofAtoms(10, "a", "b:!a", "c:!b", "d:!c", "e:!d", "f:!e", "g:!f", "h:!g", "i:!h", "j:!i");
        due("below", x.bound(0), 0b0101010101);
        due("above", x.bound(1), 0b0101010101);
    }

    // Promise 24

    static void p24NoSuchSetIsRefused() {
        refusedInBusy(-1, x -> x.why(16, 0), x -> x.why(-1, 0), x -> x.why(LEAST, 0), x -> x.why(MOST, 0));
    }

    static void p24NoSuchAtomIsRefused() {
        refusedInBusy(-1, x -> x.why(0, 4), x -> x.why(0, -1), x -> x.why(0, LEAST), x -> x.why(0, MOST));
    }

    static void p24NeitherIsOneRefusal() {
        refusedInBusy(-1, x -> x.why(16, 4));
    }

    static void p24NotInIt() {
        due("a rule would", of("a").why(0, 0), -9);
        HoldWorlds x = fresh();
        x.given(0, true);
        due("given", x.why(0, 0), -9);
    }

    static void p24NothingDoes() {
        due("no rule", fresh().why(1, 0), -9);
        due("round", of("a:b", "b:a").why(3, 0), -9);
        HoldWorlds x = of("a");
        x.put(0, false);
        due("out", x.why(1, 0), -9);
    }

    static void p24Given() {
        HoldWorlds x = of("a");
        x.given(0, true);
        due("also by a rule", x.why(1, 0), 90);
        x.given(0, false);
        due("by a rule", x.why(1, 0), 0);
    }

    static void p24TheLastOfThirty() {
        HoldWorlds x = fresh();
        for (int i = 0; i < 29; i++) {
            rule(x, "b");
        }
        rule(x, "a");
        due(x.why(3, 0), 29);
        due("the first of many", x.why(3, 1), 0);
    }

    static void p24InItsStepAlone() {
        HoldWorlds x = of("a:b", "a", "b");
        due("the later rule in the earlier step", x.why(3, 0), 1);
        x.put(1, false);
        due("then the other", x.why(3, 0), 0);
    }

    // Promise 25

    static void p25NoSuchSetIsRefused() {
        refusedInBusy(-1, x -> x.whyNot(16, 0), x -> x.whyNot(-1, 0), x -> x.whyNot(LEAST, 0), x -> x.whyNot(MOST, 0));
    }

    static void p25NoSuchAtomIsRefused() {
        refusedInBusy(-1, x -> x.whyNot(0, 4), x -> x.whyNot(0, -1), x -> x.whyNot(0, LEAST), x -> x.whyNot(0, MOST));
    }

    static void p25NeitherIsOneRefusal() {
        refusedInBusy(-1, x -> x.whyNot(16, 4));
    }

    static void p25None() {
        due("without rules", fresh().whyNot(0, 0), -9);
        due("in no head", of("a:b").whyNot(0, 1), -9);
        due("its body holds", of("a:b").whyNot(2, 0), -9);
        due("it has no body", of("a").whyNot(0, 0), -9);
    }

    static void p25OutDoesNotCount() {
        HoldWorlds x = of("a:b", "a:c");
        x.put(0, false);
        due("the second", x.whyNot(0, 0), 10);
        x.put(1, false);
        due("none", x.whyNot(0, 0), -9);
    }

    static void p25FromTheFirstPartOfTheFirstToTheLastOfTheLast() {
        due("the first", of("a:b").whyNot(0, 0), 0);
        HoldWorlds x = fresh();
        for (int i = 0; i < 30; i++) {
            rule(x, i < 29 ? "b:a" : "a:" + times(7, "!b", ",") + ",[c<1]");
        }
        due("the last", x.whyNot(4, 0), 297);
    }

    static void p25InHeadsOfEachKind() {
        HoldWorlds x = of("a|b|c|d:a", "{a,b,c,d}:a");
        due("or", x.whyNot(0, 3), 0);
        x.put(0, false);
        due("choice", x.whyNot(0, 3), 10);
        due("a bar has none", of(":a").whyNot(0, 0), -9);
    }

    // Promise 26

    static void p26DoubtedAndNotAnyMore() {
        HoldWorlds x = of("a");
        due("doubted", x.doubt(0, true), 1);
        due("counted", x.count(4), 1);
        due("no more", x.doubt(0, false), 1);
        due("counted", x.count(4), 0);
    }

    static void p26ItWasSo() {
        leavesAll(0, Told::busy, x -> x.doubt(0, true));
        leavesAll(0, Told::busy, x -> x.doubt(1, false));
    }

    static void p26NoSuchRuleIsRefused() {
        refusedInBusy(-1, x -> x.doubt(5, true), x -> x.doubt(-1, true), x -> x.doubt(5, false),
                x -> x.doubt(LEAST, true), x -> x.doubt(MOST, true), x -> x.doubt(32, true));
        refusedInFresh(-1, x -> x.doubt(0, true), x -> x.doubt(0, false));
    }

    static void p26SixAreRoom() {
        HoldWorlds x = full();
        due("six", x.count(4), 6);
        x.doubt(25, false);
        due("five", x.count(4), 5);
        due("the sixth", x.doubt(29, true), 1);
    }

    static void p26ASeventhIsRefused() {
        refusedInFull(-6, x -> x.doubt(1, true), x -> x.doubt(29, true));
    }

    static void p26OneOfTheSixAgainIsNoSeventh() {
        leavesAll(0, Told::full, x -> x.doubt(0, true));
    }

    static void p26OneThatIsNotNeedsNoRoom() {
        leavesAll(0, Told::full, x -> x.doubt(1, false));
    }

    static void p26NobodyComesBeforeRoom() {
        refusedInFull(-1, x -> x.doubt(30, true), x -> x.doubt(-1, true));
    }

    static void p26OneThatIsOutTakesRoomToo() {
        HoldWorlds x = full();
        for (int i = 0; i < 6; i++) {
            x.put(5 * i, false);
        }
        due("counted", x.count(4), 6);
        due("a seventh", x.doubt(1, true), -6);
    }

    // Promise 27

    static void p27NothingMustGo() {
        due("without rules", fresh().amends(), 0);
        HoldWorlds x = of("a", "b");
        x.doubt(0, true);
        due("there is a world", x.amends(), 0);
    }

    static void p27None() {
        leavesAll(-9, () -> of("a", ":a"), x -> x.amends());
        HoldWorlds x = of("a", ":a", "b", ":b");
        x.doubt(0, true);
        due("one is not enough", x.amends(), -9);
    }

    static void p27AllSixMustGo() {
        HoldWorlds x = of(":!a", ":!a", ":!a", ":!a", ":!a", ":!a");
        for (int r = 0; r < 6; r++) {
            x.doubt(r, true);
        }
        due(x.amends(), 63);
        due("none went", x.count(2), 6);
    }

    static void p27TheSixthBitAlone() {
        HoldWorlds x = of("a", "a", "a", "a", "a", ":!b");
        for (int r = 0; r < 6; r++) {
            x.doubt(r, true);
        }
        due(x.amends(), 32);
    }

    static void p27FewerComeBeforeLess() {
        HoldWorlds x = of("a", "a", ":a");
        x.doubt(0, true);
        x.doubt(1, true);
        x.doubt(2, true);
        due("one of bit 2, not two of bits 0 and 1", x.amends(), 4);
    }

    static void p27OfSeveralTheLeast() {
        HoldWorlds x = of(":a", "a");
        x.doubt(0, true);
        x.doubt(1, true);
        due(x.amends(), 1);
    }

    static void p27BitsAreOfThoseThatAreInAlone() {
        HoldWorlds x = of("b", "a", ":!c");
        x.doubt(0, true);
        x.doubt(1, true);
        x.doubt(2, true);
        due("bit 2", x.amends(), 4);
        x.put(0, false);
        due("bit 1", x.amends(), 2);
        x.put(1, false);
        due("bit 0", x.amends(), 1);
        x.put(2, false);
        due("nothing", x.amends(), 0);
    }

    static void p27OneThatIsOutStaysOut() {
        HoldWorlds x = of("a", ":a");
        x.doubt(0, true);
        x.put(0, false);
        due("there is a world", x.amends(), 0);
        due("out still", x.ruleOf(0, 4), 0);
    }

    static void p27GivenAndBannedDoNotGo() {
        HoldWorlds x = of(":a", "b:c");
        x.doubt(0, true);
        x.doubt(1, true);
        x.given(0, true);
        due("the bar goes", x.amends(), 1);
        x.banned(1, true);
        x.given(2, true);
        due("both go", x.amends(), 3);
        x.doubt(0, false);
        due("none", x.amends(), -9);
    }

    static void p27ItChangesNothing() {
        leavesAll(0, Told::busy, x -> x.amends());
        leavesAll(-9, PromiseEdgeTest::hopeless, x -> x.amends());
    }

    // Promise 28

    static void p28HowMany() {
        due("one", fresh().image(), 1);
        due("none", of(":!a").image(), 0);
        due("all", ofAtoms(10, "{a,b,c,d,e,f}", "{g,h,i,j}").image(), 1024);
    }

    static void p28TakenAnewItIsOfNow() {
        HoldWorlds x = of("{a}");
        x.image();
        x.given(1, true);
        due("then", x.compared(1), 0);
        due("anew", x.image(), 2);
        due("now", x.compared(1), -9);
    }

    // Promise 29

    static void p29NoImageIsRefused() {
        refused(-3, () -> of("{a}"), x -> x.compared(0));
        refused(-3, () -> of("{a}"), x -> x.compared(1));
    }

    static void p29AnotherWhatIsRefused() {
        refusedInBusy(-2, x -> x.compared(2), x -> x.compared(-1), x -> x.compared(LEAST), x -> x.compared(MOST));
    }

    static void p29OtherComesBeforeNoImage() {
        refused(-2, () -> of("{a}"), x -> x.compared(2));
        refused(-2, () -> of("{a}"), x -> x.compared(-1));
    }

    static void p29AnImageOfNoWorldsIsOne() {
        HoldWorlds x = of(":!a");
        x.image();
        due("none new", x.compared(0), -9);
        due("none gone", x.compared(1), -9);
        x.put(0, false);
        due("the empty one is new", x.compared(0), 0);
        due("none gone", x.compared(1), -9);
    }

    static void p29NoneIsNowButAllWere() {
        HoldWorlds x = of("{a,b}1-2", ":!c");
        x.put(1, false);
        x.image();
        x.put(1, true);
        due("none new", x.compared(0), -9);
        due("the first gone", x.compared(1), 1);
    }

    static void p29TheLastOf1024() {
        HoldWorlds x = ofAtoms(10, "{a,b,c,d,e,f}", "{g,h,i,j}", ":a,b,c,d,e,f,g,h");
        x.image();
        x.put(2, false);
        due("the first that was not", x.compared(0), 255);
        x.put(2, true);
        rule(x, ":a,b,c,d,e,f,[i+j<2]");
        due("the first that is no more", x.compared(1), 63);
    }

    // Promise 30

    static void p30LeastIsMinus128() {
        HoldWorlds x = fresh();
        due(x.line(-128), 1);
        due("one more", x.line(-127), 2);
    }

    static void p30GreatestIs127() {
        HoldWorlds x = fresh();
        due(x.line(127), 1);
        due("one less", x.line(126), 2);
    }

    static void p30BelowIsRefused() {
        refusedInBusy(-4, x -> x.line(-129), x -> x.line(LEAST));
    }

    static void p30AboveIsRefused() {
        refusedInBusy(-6, x -> x.line(128), x -> x.line(255), x -> x.line(MOST));
    }

    static void p30TwelveAreRoom() {
        due("the eleventh", linesOf(10).line(0), 11);
        due("the twelfth", linesOf(11).line(0), 12);
    }

    static void p30AThirteenthIsRefused() {
        refused(-6, () -> linesOf(12), x -> x.line(0));
        refused(-6, () -> linesOf(12), x -> x.line(-128));
        due("as many", linesOf(13).count(6), 12);
    }

    static void p30BelowComesBeforeTwelve() {
        refused(-4, () -> linesOf(12), x -> x.line(-129));
    }

    static void p30AboveAndTwelveIsOneRefusal() {
        refused(-6, () -> linesOf(12), x -> x.line(128));
    }

    // Promise 31

    static void p31LinesAreNoneThen() {
        HoldWorlds x = linesOf(12);
        x.judge();
        due(x.count(6), 0);
        due("room again", x.line(0), 1);
        due("a row of its own", x.judge(), -9);
    }

    static void p31AnEmptyRow() {
        due("is so", fresh().judge(), -9);
        due("breaks the first", of("a").judge(), 100);
        HoldWorlds x = fresh();
        x.given(0, true);
        due("a given one lacks", x.judge(), 200);
    }

    static void p31NoAtom() {
        due("-1", judged(of("{a}"), -1), 0);
        due("-128", judged(of("{a}"), -128), 0);
        due("127", judged(of("{a}"), 127), 0);
        due("one behind the last", judged(of("{a}"), 4), 0);
        due("at the end", judged(of("{a}"), 0, 4), 1);
        due("the last", judged(of("{d}"), 3), -9);
    }

    static void p31ComesTwice() {
        due("at once", judged(of("{a,b}"), 0, 0), 1);
        due("behind another", judged(of("{a,b}"), 0, 1, 0), 2);
        HoldWorlds x = fresh();
        x.given(0, true);
        due("given", judged(x, 0, 0), 1);
    }

    static void p31TheTwelfthPlace() {
        HoldWorlds x = ofAtoms(10, "{a,b,c,d,e,f}", "{g,h,i,j}");
        due("the eleventh comes twice", judged(x, 0, 1, 2, 3, 4, 5, 6, 7, 8, 9, 0, 1), 10);
        due("ten are so", judged(x, 9, 8, 7, 6, 5, 4, 3, 2, 1, 0), -9);
    }

    static void p31TheFirstAndTheLastRuleThatBreaks() {
        due("the first", judged(of("a", "b")), 100);
        HoldWorlds x = fresh();
        for (int i = 0; i < 29; i++) {
            rule(x, "a");
        }
        rule(x, "b");
        due("the last", judged(x, 0), 129);
    }

    static void p31BreaksComesBeforeBannedAndGiven() {
        HoldWorlds x = of("{a}", "b");
        x.banned(0, true);
        x.given(2, true);
        due("a rule", judged(x, 0), 101);
        due("then those", judged(x, 1), 200);
        due("the place comes first", judged(x, 3), 0);
    }

    static void p31BannedAlone() {
        HoldWorlds x = of("{a}");
        x.banned(0, true);
        due("in it", judged(x, 0), 200);
        due("not in it", judged(x), -9);
    }

    static void p31ItCountsNoRefusal() {
        HoldWorlds x = of("a");
        judged(x, 9);
        judged(x, -128);
        judged(x);
        for (int n : refusals(x)) {
            due("refusals", n, 0);
        }
    }

    // Promise 32

    static void p32AnotherWhatIsNoneAndNotRefused() {
        for (int what : new int[] {-1, 9, 10, 17, 18, LEAST, LEAST + 9, LEAST + 20, MOST}) {
            leavesAll(-9, Told::busy, x -> x.count(what));
        }
    }

    static void p32AllAtTheGreatest() {
        HoldWorlds x = full();
        int[] want = {4, 30, 30, 20, 6, 8, 12, 0, 0};
        for (int what = 0; what < want.length; what++) {
            due("what " + what, x.count(what), want[what]);
        }
    }

    static void p32EachRefusalUnderItsOwn() {
        HoldWorlds x = busy();
        x.world(16);
        x.world(16);
        x.world(16);
        x.world(16);
        x.world(16);
        x.sure(2);
        x.sure(2);
        x.sure(2);
        x.sure(2);
        x.even(0);
        x.even(0);
        x.even(0);
        x.line(-129);
        x.line(-129);
        x.line(128);
        int[] want = {5, 4, 3, 2, 0, 1};
        for (int i = 0; i < want.length; i++) {
            due("what " + (11 + i), x.count(11 + i), want[i]);
        }
    }

    static void p32NobodyIsRefusedWithMinus5() {
        due(full().count(15), 0);
    }

    static void p32ItIsNoChange() {
        leavesAll(4, Told::busy, x -> x.count(0));
        leavesAll(0, Told::busy, x -> x.count(16));
    }

    public static void main(String[] args) throws ReflectiveOperationException {
        runAll(PromiseEdgeTest.class);
    }
}
