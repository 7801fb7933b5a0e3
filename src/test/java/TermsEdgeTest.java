/** The edges of the words that the promises rest on: sections I to V and REFUSALS, a test for each sentence. */
public final class TermsEdgeTest extends Told {
    private static final String SIX = "[a+b+c+d+a+b<999]";

    private static void fault(String text, int place) {
        faultOf(4, text, place);
    }

    private static void faultOf(int atoms, String text, int place) {
        HoldWorlds x = ofAtoms(atoms);
        due("the fault of " + text, rule(x, text), -20 - place);
        due("rules of " + text, x.count(1), 0);
        if (text.startsWith(":")) {
            due("the wish " + text, wish(x, text, 0, 1), -20 - place);
        }
    }

    private static void good(String text, int kind) {
        HoldWorlds x = new HoldWorlds();
        due("the rule " + text, rule(x, text), 0);
        due("the kind of " + text, x.ruleOf(0, 0), kind);
    }

    private static int[] worldsOf(HoldWorlds x) {
        int[] all = new int[x.worlds()];
        int world = -1;
        for (int i = 0; i < all.length; i++) {
            world = x.next(world);
            all[i] = world;
        }
        return all;
    }

    private static void sameWorlds(String what, HoldWorlds x, HoldWorlds y) {
        must(what, java.util.Arrays.equals(worldsOf(x), worldsOf(y)));
    }

    // I. ATOMS, SETS, WEIGHTS

    static void atomsAreLettersFromAOn() {
        for (int n = 1; n <= 10; n++) {
            String last = String.valueOf((char) ('a' + n - 1));
            String behind = String.valueOf((char) ('a' + n));
            due("the last of " + n, rule(ofAtoms(n), last), 0);
            due("one behind the last of " + n, rule(ofAtoms(n), behind), -20);
        }
        fault("`", 0);
        fault("A", 0);
        fault("z", 0);
        fault("\u00e1", 0);
        fault("\u0000", 0);
        fault("1", 0);
    }

    static void atomsFourAtFirst() {
        due("d", rule(new HoldWorlds(), "d"), 0);
        due("e", rule(new HoldWorlds(), "e"), -20);
    }

    static void setsAreBitsOfAtomsALowest() {
        for (int n = 1; n <= 10; n++) {
            HoldWorlds x = ofAtoms(n, "a");
            due("the first atom of " + n, x.world(1), 1);
            due("the last set of " + n, x.broken((1 << n) - 1), -9);
            due("one more of " + n, x.broken(1 << n), -1);
            due("one less than none of " + n, x.broken(-1), -1);
        }
    }

    static void setsWithABitOfNoAtom() {
        HoldWorlds x = of("a");
        due("beside those of atoms", x.world(17), -1);
        due("the highest", x.world(Integer.MIN_VALUE | 1), -1);
        due("all", x.world(-1), -1);
    }

    static void weightsOneAtFirst() {
        HoldWorlds x = ofAtoms(10);
        for (int atom = 0; atom < 10; atom++) {
            due("atom " + atom, x.weight(atom, 0), 1);
        }
    }

    static void weightsAreOfTheirAtomAlone() {
        HoldWorlds x = ofAtoms(10);
        x.weight(9, 99);
        x.weight(0, 0);
        for (int atom = 1; atom < 9; atom++) {
            due("atom " + atom, x.weight(atom, 1), 1);
        }
    }

    // I. A TEXT and its FAULT

    static void textOf60Bytes() {
        String text = "{a,b,c,d,a,b}0-6:" + SIX + "," + SIX + ",[a<999]";
        due("its length", text.length(), 60);
        good(text, 3);
        good(text.substring(0, 57) + "8]", 3);
        due("a wish", wish(new HoldWorlds(), ":" + times(3, SIX, ",") + ",[a<9]", 0, 1), 0);
    }

    static void textOf60BytesLacksAtItsEnd() {
        String text = "{a,b,c,d,a,b}0-6:" + SIX + "," + SIX + ",[a+b<99";
        due("its length", text.length(), 60);
        fault(text, 60);
        fault(text.substring(0, 59) + "?", 59);
    }

    static void textOf61BytesCannotCome() {
        HoldWorlds x = new HoldWorlds();
        due("sixty", feed(x, "a:" + times(29, "b", ",") + ","), 60);
        due("one more", x.feed(1, 'b'), -6);
        due("what came is read", x.rule(), -20 - 17);
    }

    static void textOfNothing() {
        fault("", 0);
    }

    static void faultIsTheFirstOfTwo() {
        fault("??", 0);
        fault("a?b?", 1);
        fault("a|b|?|?|?", 4);
        fault("{a,?}9", 3);
        fault(":?,b,b,b,b,b,b,b,b", 1);
    }

    static void faultIsTheEndIfSomethingLacks() {
        String[] lacking = {"", "a|", "a|b|", "a|b|c|", "{", "{a", "{a,", "{a,b", "{a}1", "{a}1-", "a:", "a|b:",
            "{a}:", "{a}0-1:", ":", ":a,", ":!", ":a,!", ":[", ":[a", ":[a+", ":[a+b", ":[a<", ":[a<1", ":[a<12",
            ":[a<123", ":[a<1],", "a:b,b,b,b,b,b,b,"};
        for (String text : lacking) {
            fault(text, text.length());
        }
    }

    static void faultIsALetterOfNoAtomToo() {
        fault("e", 0);
        fault("a|e", 2);
        fault("a|b|c|e", 6);
        fault("{e}", 1);
        fault("{a,b,c,d,a,e}", 11);
        fault("a:e", 2);
        fault("a:b,e", 4);
        fault("a:!e", 3);
        fault(":[e<1]", 2);
        fault(":[a+b+c+d+a+e<1]", 12);
        faultOf(1, "a:b", 2);
        faultOf(10, "a:k", 2);
        faultOf(10, "j|k", 2);
    }

    static void faultOfOneTooManyIsTheSignAheadOfIt() {
        fault("a|b|c|d|a", 7);
        fault("{a,b,c,d,a,b,c}", 12);
        fault(":[a+b+c+d+a+b+c<1]", 13);
        fault(":a,a,a,a,a,a,a,a,a", 16);
        fault("a:a,a,a,a,a,a,a,a,a", 17);
    }

    static void faultOfOneTooManyIsThatSignWhateverStandsBehind() {
        fault("a|b|c|d|", 7);
        fault("a|b|c|d|e", 7);
        fault("a|b|c|d|?", 7);
        fault("{a,b,c,d,a,b,", 12);
        fault("{a,b,c,d,a,b,e}", 12);
        fault(":[a+b+c+d+a+b+", 13);
        fault(":[a+b+c+d+a+b+!a<1]", 13);
        fault(":a,a,a,a,a,a,a,a,", 16);
        fault(":a,a,a,a,a,a,a,a,[a<1]", 16);
    }

    static void faultBehindTheEndOfARule() {
        fault("ab", 1);
        fault("a ", 1);
        fault("a\n", 1);
        fault("a\u0000", 1);
        fault("a.", 1);
        fault("a|bc", 3);
        fault("{a}b", 3);
        fault("{a}0-1a", 6);
        fault(":a:", 2);
        fault(":[a<1]a", 6);
    }

    // I. HEAD

    static void headAnAtom() {
        good("a", 1);
        good("d:a", 1);
        fault("!a", 0);
        fault("a!", 1);
    }

    static void headOrOf2To4() {
        good("a|b", 2);
        good("a|b|c", 2);
        good("a|b|c|d", 2);
        good("a|a", 2);
        good("a|b|c|d:a", 2);
    }

    static void headOrOf5() {
        fault("a|b|c|d|a:b", 7);
    }

    static void headOrOf1HasNoSign() {
        fault("|a", 0);
        fault("a|", 2);
        fault("a||b", 2);
        fault("a|:b", 2);
        fault("a|{b}", 2);
        fault("a|!b", 2);
    }

    static void headChoiceOf1To6() {
        good("{a}", 3);
        good("{a,b}", 3);
        good("{a,b,c,d,a}", 3);
        good("{a,b,c,d,a,b}", 3);
        good("{a,a,a,a,a,a}:a", 3);
    }

    static void headChoiceOf0() {
        fault("{}", 1);
        fault("{}1-1", 1);
    }

    static void headChoiceOf7() {
        fault("{a,b,c,d,a,b,c}0-7", 12);
    }

    static void headChoiceWithOtherSigns() {
        fault("{a|b}", 2);
        fault("{a+b}", 2);
        fault("{a,,b}", 3);
        fault("{,a}", 1);
        fault("{!a}", 1);
        fault("{a:b}", 2);
        fault("{{a}}", 1);
        fault("}", 0);
    }

    static void headChoiceWithLowAndHighOfADigitEach() {
        good("{a}0-0", 3);
        good("{a}9-9", 3);
        good("{a}0-9:b", 3);
        good("{a}9-0", 3);
    }

    static void headChoiceWithTwoDigits() {
        fault("{a}12-3", 4);
        fault("{a}1-23", 6);
        fault("{a}1-23:b", 6);
    }

    static void headChoiceWithHalfOfLowAndHigh() {
        fault("{a}1", 4);
        fault("{a}1:b", 4);
        fault("{a}1-", 5);
        fault("{a}1-:b", 5);
        fault("{a}-1", 3);
        fault("{a}1--1", 5);
        fault("{a}/-1", 3);
        fault("{a}1-/", 5);
    }

    static void headOfNoChoiceHasNoLow() {
        fault("a1-1", 1);
        fault("a|b1-1", 3);
        fault("1-1", 0);
    }

    // I. BODY

    static void bodyOf1To8() {
        for (int n = 1; n <= 8; n++) {
            good(":" + times(n, "a", ","), 4);
            good("a:" + times(n, "!b", ","), 1);
        }
        good("a:" + times(8, "[a<1]", ","), 1);
    }

    static void bodyOf0() {
        fault(":", 1);
        fault("a:", 2);
        fault("a:,b", 2);
        fault("::a", 1);
    }

    static void bodyOf9() {
        fault("a:" + times(9, "!b", ","), 2 + 23);
        fault("a:" + times(9, "[a<1]", ","), 2 + 47);
    }

    static void bodyNotOfAnAtomAlone() {
        fault(":!", 2);
        fault(":!!a", 2);
        fault(":![a<1]", 2);
        fault(":!a!b", 3);
        fault(":!,a", 2);
    }

    static void bodyFewOf1To6() {
        good(":[a<1]", 4);
        good(":[a+b<1]", 4);
        good(":[a+b+c+d+a<1]", 4);
        good(":[a+b+c+d+a+b<1]", 4);
    }

    static void bodyFewOf0() {
        fault(":[<1]", 2);
        fault(":[]", 2);
        fault(":[+a<1]", 2);
    }

    static void bodyFewOf7() {
        fault("a:[a+b+c+d+a+b+c<1]", 14);
    }

    static void bodyFewWithOtherSigns() {
        fault(":[a,b<1]", 3);
        fault(":[a|b<1]", 3);
        fault(":[a++b<1]", 4);
        fault(":[!a<1]", 2);
        fault(":[a>1]", 3);
        fault(":[a]", 3);
        fault(":[a<1}", 5);
        fault(":[[a<1]]", 2);
        fault(":]", 1);
    }

    static void bodyNumberOf1To3Digits() {
        good(":[a<0]", 4);
        good(":[a<10]", 4);
        good(":[a<999]", 4);
        good(":[a<000]", 4);
    }

    static void bodyNumberOf0Digits() {
        fault(":[a<]", 4);
        fault(":[a<-1]", 4);
        fault(":[a<a]", 4);
        fault(":[a</]", 4);
        fault(":[a<:]", 4);
    }

    static void bodyNumberOf4Digits() {
        fault(":[a<1234]", 7);
        fault(":[a<0001]", 7);
    }

    // I. RULES, IN and OUT, GIVEN and BANNED

    static void rulesAreInAtFirst() {
        HoldWorlds x = of("a", "a|b", "{a}", ":c");
        for (int r = 0; r < 4; r++) {
            due("rule " + r, x.ruleOf(r, 4), 1);
        }
        due("all", x.count(2), 4);
    }

    static void rulesOf30AreAllRead() {
        HoldWorlds x = new HoldWorlds();
        for (int r = 0; r < 30; r++) {
            rule(x, r % 2 == 0 ? "a" : "b");
        }
        for (int r = 0; r < 30; r++) {
            due("rule " + r, x.ruleOf(r, 1), r % 2 == 0 ? 1 : 2);
        }
    }

    static void givenIsAsARuleOfThatAtomAlone() {
        String[] rules = {"b:a", "c|d:a,!b", "{c}:b", ":d,a"};
        for (int atom = 0; atom < 4; atom++) {
            HoldWorlds told = of(rules);
            told.given(atom, true);
            HoldWorlds ruled = of(rules);
            rule(ruled, String.valueOf((char) ('a' + atom)));
            sameWorlds("worlds of " + atom, told, ruled);
            due("below", told.bound(0), ruled.bound(0));
            due("above", told.bound(1), ruled.bound(1));
            told.given(atom, false);
            sameWorlds("not any more", told, of(rules));
        }
    }

    static void bannedIsAsABarOfIt() {
        String[] rules = {"{a,b}", "c|d:a", "d:b"};
        for (int atom = 0; atom < 4; atom++) {
            HoldWorlds told = of(rules);
            told.banned(atom, true);
            HoldWorlds ruled = of(rules);
            rule(ruled, ":" + (char) ('a' + atom));
            sameWorlds("worlds of " + atom, told, ruled);
            due("below", told.bound(0), ruled.bound(0));
            due("above", told.bound(1), ruled.bound(1));
            told.banned(atom, false);
            sameWorlds("not any more", told, of(rules));
        }
    }

    // II. HOLDS and BREAKS

    static void holdsFewBelowItsNumberAlone() {
        HoldWorlds x = of(":[a+b<3]");
        x.weight(0, 2);
        due("none", x.holds(0, 0), 1);
        due("two", x.holds(0, 1), 1);
        due("three", x.holds(0, 3), 0);
        x.weight(1, 0);
        due("two again", x.holds(0, 3), 1);
        due("others weigh nothing here", x.holds(0, 15), 1);
    }

    static void holdsFewBelow0Never() {
        HoldWorlds x = of(":[a<0]");
        due("none in it", x.holds(0, 0), 0);
        x.weight(0, 0);
        due("no weight", x.holds(0, 1), 0);
    }

    static void holdsFewBelow1() {
        HoldWorlds x = of(":[a<1]");
        due("none in it", x.holds(0, 0), 1);
        due("in it", x.holds(0, 1), 0);
        x.weight(0, 0);
        due("no weight", x.holds(0, 1), 1);
    }

    static void holdsFewOfTheGreatestWeights() {
        HoldWorlds x = ofAtoms(6, ":[a+b+c+d+e+f<594]", ":[a+b+c+d+e+f<595]", ":[a+b+c+d+e+f<999]");
        for (int atom = 0; atom < 6; atom++) {
            x.weight(atom, 99);
        }
        due("as many", x.holds(0, 63), 0);
        due("one lacks", x.holds(0, 62), 1);
        due("one more", x.holds(1, 63), 1);
        due("the greatest number", x.holds(2, 63), 1);
    }

    static void holdsFewWithZerosAhead() {
        HoldWorlds x = of(":[a<002]", ":[a<2]");
        x.weight(0, 2);
        due("as the number", x.holds(0, 1), x.holds(1, 1));
        x.weight(0, 1);
        due("as the number", x.holds(0, 1), x.holds(1, 1));
    }

    static void holdsEachOfEightParts() {
        HoldWorlds x = ofAtoms(8, ":a,b,c,d,e,f,g,h", ":!a,!b,!c,!d,!e,!f,!g,!h");
        due("all", x.holds(0, 255), 1);
        due("none", x.holds(1, 0), 1);
        for (int atom = 0; atom < 8; atom++) {
            due("lacks " + atom, x.holds(0, 255 - (1 << atom)), 0);
            due("has " + atom, x.holds(1, 1 << atom), 0);
        }
    }

    static void breaksNoneWhoseBodyDoesNotHold() {
        HoldWorlds x = of("a:b", "a|c:b", "{a}1-1:b", ":b");
        due("it does not hold", x.broken(0), -9);
        due("it holds", x.broken(2), 0);
    }

    static void breaksAnAtomWithoutABody() {
        due("not in it", of("a").broken(14), 0);
        due("in it", of("a").broken(1), -9);
    }

    static void breaksAnOrOfWhichNoneIsIn() {
        HoldWorlds x = of("a|b|c|d");
        due("none", x.broken(0), 0);
        for (int set = 1; set <= 15; set++) {
            due("set " + set, x.broken(set), -9);
        }
    }

    static void breaksAChoiceOutsideOfLowAndHigh() {
        HoldWorlds x = of("{a,b,c,d}1-2");
        int[] sets = {0, 1, 3, 7, 15};
        int[] want = {0, -9, -9, 0, 0};
        for (int i = 0; i < sets.length; i++) {
            due(i + " are in it", x.broken(sets[i]), want[i]);
        }
    }

    static void breaksAChoiceOf0To0() {
        HoldWorlds x = of("{a,b}0-0");
        due("none", x.broken(0), -9);
        due("one", x.broken(1), 0);
    }

    static void breaksAChoiceWithTheGreatestLow() {
        HoldWorlds x = ofAtoms(6, "{a,b,c,d,e,f}6-6", "{a,b,c,d,e,f}7-9");
        x.put(1, false);
        due("all", x.broken(63), -9);
        due("one lacks", x.broken(62), 0);
        x.put(1, true);
        due("more than there are", x.broken(63), 1);
    }

    static void breaksNoChoiceWithoutLowAndHigh() {
        HoldWorlds x = ofAtoms(6, "{a,b,c,d,e,f}", "{a,a,a,a,a,a}");
        due("none", x.broken(0), -9);
        due("all", x.broken(63), -9);
    }

    static void breaksAChoiceWithEachLetterAsOftenAsItStands() {
        HoldWorlds x = of("{a,a,b}1-2");
        due("twice one", x.broken(1), -9);
        due("once another", x.broken(2), -9);
        due("three", x.broken(3), 0);
        due("six times", of("{a,a,a,a,a,a}6-6").broken(1), -9);
    }

    static void breaksAChoiceOfLowAboveHighAlways() {
        HoldWorlds x = of("{a,b}2-1");
        for (int set = 0; set <= 3; set++) {
            due("set " + set, x.broken(set), 0);
        }
        due("no world", x.worlds(), 0);
    }

    static void breaksABarAlways() {
        due("none", of(":!a").broken(0), 0);
        due("all", of(":a,b,c,d").broken(15), 0);
    }

    // II. STEPS

    static void stepsNothingInStep0() {
        HoldWorlds x = of("{a,b,c,d}");
        x.given(0, true);
        for (int atom = 0; atom < 4; atom++) {
            due("atom " + atom, x.step(15, atom), 1);
        }
    }

    static void stepsNeedThoseAheadNotThoseOfTheSameStep() {
        HoldWorlds x = of("a", "b", "c:a,b", "d:c,a");
        due("behind two of step 1", x.step(15, 2), 2);
        due("behind one of step 2", x.step(15, 3), 3);
    }

    static void stepsDoNotNeedThoseWithTheSignOrInFew() {
        due("unless", of("a:!b").step(1, 0), 1);
        due("few", of("a:[a+b<9]").step(1, 0), 1);
        due("few of one that is carried by it", of("a:[b<9]", "b:a").step(3, 1), 2);
    }

    static void stepsOfAnOrNeedNoOtherOfItInTheSet() {
        HoldWorlds x = of("a|b|c|d");
        due("alone", x.step(8, 3), 1);
        due("another", x.step(9, 3), -9);
        due("the same twice is no other", of("a|a|a|a").step(1, 0), 1);
        due("the same twice and another", of("a|a|b").step(3, 0), -9);
    }

    static void stepsOfAChoiceCarryAllOfItThatAreInTheSet() {
        HoldWorlds x = of("{a,b,c}");
        due("two", x.unheld(3), 0);
        due("and one that is not of it", x.unheld(11), 8);
    }

    static void stepsOfRulesThatAreOut() {
        HoldWorlds x = of("a");
        x.put(0, false);
        due(x.step(1, 0), -9);
    }

    static void stepsOfGivenOnes() {
        HoldWorlds x = of("b", "a:b", "c:a");
        due("by a rule", x.step(7, 0), 2);
        x.given(0, true);
        due("given", x.step(7, 0), 1);
        due("behind it", x.step(7, 2), 2);
    }

    // II. A WORLD

    static void worldBreaksNoRule() {
        HoldWorlds x = of("a", ":a,b", "{b}");
        due("so", x.world(1), 1);
        due("a bar", x.world(3), 0);
        due("an atom lacks", x.world(2), 0);
    }

    static void worldHasAllGivenAndNoBannedOne() {
        HoldWorlds x = of("{a,b}");
        x.given(0, true);
        x.banned(1, true);
        due("so", x.world(1), 1);
        due("a given one lacks", x.world(0), 0);
        due("a banned one is in it", x.world(3), 0);
    }

    static void worldIsCarriedWithoutAnOr() {
        HoldWorlds x = of("a:b", "b:a", "c:!a");
        due("nothing holds a and b", x.world(3), 0);
        due("it is c", x.world(4), 1);
    }

    static void worldWithAnOrHasNoLesser() {
        HoldWorlds x = of("a|b");
        due("one", x.world(1), 1);
        due("the other", x.world(2), 1);
        due("both", x.world(3), 0);
        due("none", x.world(0), 0);
    }

    static void worldWithAnOrMayBeUncarried() {
        HoldWorlds x = of("a|b", "a:b", "b:a");
        due("both", x.world(3), 1);
        due("neither is carried", x.unheld(3), 3);
        x.put(0, false);
        due("without the or", x.world(3), 0);
        due("then none", x.world(0), 1);
    }

    static void worldWithAnOrLesserHasAllGivenOnes() {
        HoldWorlds x = of("a|b");
        x.given(1, true);
        due("the given one", x.world(2), 1);
        due("a lesser has it", x.world(3), 0);
    }

    static void worldWithAnOrOfAChoiceAllThatAreIn() {
        HoldWorlds x = of("c|d", "{a,b}:c");
        due("all chosen", x.world(7), 1);
        due("none chosen", x.world(4), 1);
        due("chosen though its body does not hold", x.world(11), 0);
    }

    static void worldWithAnOrBarsDoNotMatterToALesser() {
        HoldWorlds x = of("a|b|c", "{b}", ":b,!c");
        due("less would break the bar", x.world(6), 0);
        due("it alone", x.world(4), 1);
    }

    static void worldWithAnOrOfTheFullSetOfTen() {
        String[] round = {"a|b", "b:a", "c:b", "d:c", "e:d", "f:e", "g:f", "h:g", "i:h", "j:i", "a:j"};
        HoldWorlds x = ofAtoms(10, round);
        due("all", x.world(1023), 1);
        due("it alone", x.worlds(), 1);
        due("nothing is carried", x.unheld(1023), 1023);
    }

    // III. SURE, SOME, SHOWN, WISHES, BEST, EVEN

    static void worldsComeInOrderOfTheirNumbers() {
        HoldWorlds x = of("d|c|b|a");
        int[] want = {1, 2, 4, 8};
        must("in order", java.util.Arrays.equals(want, worldsOf(x)));
    }

    static void wishesAreNoRules() {
        HoldWorlds x = of("a");
        wish(x, ":a", 3, 99);
        due("it is a world", x.world(1), 1);
        due("it breaks nothing", x.broken(1), -9);
        due("rules", x.count(1), 1);
    }

    static void wishesWeighAsOfNow() {
        HoldWorlds x = of("{a}");
        wish(x, ":[a<2]", 0, 5);
        due("light", x.cost(1, 0), 5);
        x.weight(0, 2);
        due("heavy", x.cost(1, 0), 0);
        due("best then", x.best(0), 1);
    }

    static void wishesAreBarsOf1To8Parts() {
        for (int n = 1; n <= 8; n++) {
            due(n + " parts", wish(new HoldWorlds(), ":" + times(n, "a", ","), 0, 1), 0);
        }
        due("9 parts", wish(new HoldWorlds(), ":" + times(9, "a", ","), 0, 1), -20 - 16);
    }

    static void bestOfARankOnlyAmongTheBestOfThoseAbove() {
        HoldWorlds x = of("{a,b}1-1", "{c}");
        wish(x, ":a", 3, 1);
        wish(x, ":b,!c", 2, 1);
        wish(x, ":b", 1, 99);
        wish(x, ":c", 0, 99);
        due("b and c", x.best(0), 6);
        due("alone", x.best(1), 1);
    }

    static void bestOfSeveralIsTheLeast() {
        HoldWorlds x = of("{a,b,c}1-1");
        wish(x, ":a", 0, 1);
        due("b", x.best(0), 2);
        due("b and c", x.best(1), 2);
    }

    // IV. BELOW, ABOVE, WHY

    static void belowNeedsEachFewEvenIfAllOfAboveWereTrue() {
        HoldWorlds x = of("{a,b}", "c:[a+b<2]", "d:[a+b<3]");
        due("just as many, and one more", x.bound(0), 8);
        x.weight(0, 0);
        due("lighter", x.bound(0), 12);
    }

    static void aboveTakesFewAsIfBelowAloneWereTrue() {
        HoldWorlds x = of("{a,b}", "c:[a+b<1]");
        due("nothing is below", x.bound(1), 7);
        x.given(0, true);
        due("one is", x.bound(1), 3);
    }

    static void belowTakesNoOrAndNoChoice() {
        due("or", of("a|b").bound(0), 0);
        due("or of one letter", of("a|a").bound(0), 0);
        due("choice", of("{a}1-1").bound(0), 0);
        due("above does", of("a|b", "{c}0-0").bound(1), 7);
    }

    static void belowComesFirstThenAboveByThat() {
        HoldWorlds x = of("a", "b:!a", "c:!b");
        due("below", x.bound(0), 5);
        due("above", x.bound(1), 5);
    }

    static void belowAndAboveOfRulesThatAreOut() {
        HoldWorlds x = of("a", "{b}");
        x.put(0, false);
        x.put(1, false);
        due("below", x.bound(0), 0);
        due("above", x.bound(1), 0);
    }

    static void whyIsTheFirstRuleOfItsStep() {
        HoldWorlds x = of("a:b", "b", "a:b", "{a}:b");
        due("of three", x.why(3, 0), 0);
        x.put(0, false);
        due("of two", x.why(3, 0), 2);
        x.put(2, false);
        due("of one", x.why(3, 0), 3);
        x.put(3, false);
        due("of none", x.why(3, 0), -9);
    }

    static void whyNotIsTheFirstPartThatDoesNotHold() {
        HoldWorlds x = of("a:b,!c,[d<1],b");
        due("the first", x.whyNot(12, 0), 0);
        due("the second", x.whyNot(14, 0), 1);
        due("the third", x.whyNot(10, 0), 2);
        due("none", x.whyNot(2, 0), -9);
    }

    // V. DOUBTED ones, THE IMAGE, LINES

    static void doubtedSixOfThirtyWhereverTheyStand() {
        HoldWorlds x = full();
        for (int r = 0; r < 30; r++) {
            due("rule " + r, x.doubt(r, false), r % 5 == 0 ? 1 : 0);
        }
        due("none", x.count(4), 0);
    }

    static void doubtedIsNotOut() {
        HoldWorlds x = of("a");
        x.doubt(0, true);
        due("in", x.ruleOf(0, 4), 1);
        due("it counts", x.world(0), 0);
    }

    static void amendsOfTheLastSixOfThirty() {
        HoldWorlds x = new HoldWorlds();
        for (int r = 0; r < 30; r++) {
            rule(x, r < 29 ? "a" : ":a");
        }
        for (int r = 24; r < 30; r++) {
            x.doubt(r, true);
        }
        due("the last alone", x.amends(), 32);
    }

    static void imageIsKeptTillTakenAnew() {
        HoldWorlds x = of("{a,b}");
        x.image();
        x.given(2, true);
        x.given(2, false);
        x.put(0, false);
        due("gone", x.compared(1), 1);
        x.put(0, true);
        due("again", x.compared(1), -9);
    }

    static void imageOfMoreAtomsAndOfFewer() {
        HoldWorlds x = ofAtoms(10);
        x.given(9, true);
        x.image();
        x.given(9, false);
        x.atoms(1);
        due("it was of more", x.compared(1), 512);
        due("the empty one is new", x.compared(0), 0);
        x.image();
        x.atoms(10);
        x.given(9, true);
        due("it is of more", x.compared(0), 512);
        due("the empty one is gone", x.compared(1), 0);
    }

    static void linesAreOfTheWholeRow() {
        due("a later one is another of the or", judged(of("a|b"), 0, 1), 0);
        due("a later one breaks the body", judged(of("a:!b", "{b}"), 0, 1), 0);
        due("behind a byte of no atom, too", judged(of("a:!b", "{b}"), 0, 9, 1), 0);
    }

    static void linesNeedThoseOfABodyAhead() {
        HoldWorlds x = of("a", "b:a", "c:a,b");
        due("in order", judged(x, 0, 1, 2), -9);
        due("not ahead", judged(x, 0, 2, 1), 1);
        due("itself is not ahead", judged(of("a:a"), 0), 0);
    }

    static void linesOfRulesThatAreOut() {
        HoldWorlds x = of("a");
        x.put(0, false);
        due("in no head", judged(x, 0), 0);
        due("nothing is broken", judged(x), -9);
    }

    // REFUSALS

    static void refusalsAreCountedEachTime() {
        HoldWorlds x = new HoldWorlds();
        for (int i = 1; i <= 400; i++) {
            x.world(-5);
        }
        due("four hundred", x.count(11), 400);
        due("no other", x.count(12) + x.count(13) + x.count(14) + x.count(15) + x.count(16), 0);
    }

    static void refusalsDoNotCountNone() {
        HoldWorlds x = of(":!a");
        x.next(-1);
        x.sure(0);
        x.best(0);
        x.broken(1);
        x.step(0, 0);
        x.why(0, 0);
        x.whyNot(0, 0);
        x.amends();
        x.judge();
        x.count(9);
        for (int n : refusals(x)) {
            due("refusals", n, 0);
        }
    }

    static void refusalsStayWhenAllElseChanges() {
        HoldWorlds x = new HoldWorlds();
        x.atoms(0);
        x.atoms(11);
        x.atoms(10);
        rule(x, "a");
        x.image();
        due("below", x.count(14), 1);
        due("room", x.count(16), 1);
    }

    public static void main(String[] args) throws ReflectiveOperationException {
        runAll(TermsEdgeTest.class);
    }
}
