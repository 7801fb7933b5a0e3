import java.util.function.IntSupplier;

/** For each promise of the document runs with the answers that it asks for, worked out by hand. */
public final class PromiseTest extends Told {
    static void newObject() {
        HoldWorlds x = new HoldWorlds();
        due("1 atoms", x.count(0), 4);
        for (int what = 1; what <= 8; what++) {
            due("1 count " + what, x.count(what), 0);
        }
        for (int what = 11; what <= 16; what++) {
            due("1 refusals " + what, x.count(what), 0);
        }
        due("1 world", x.next(-1), 0);
        due("1 another object is not touched", of("a").count(1), 1);
        due("1 rules still", x.count(1), 0);
    }

    static void atoms() {
        HoldWorlds x = new HoldWorlds();
        due("2 least", x.atoms(1), 4);
        due("2 greatest", x.atoms(10), 1);
        due("2 below", x.atoms(0), -4);
        due("2 far below", x.atoms(Integer.MIN_VALUE), -4);
        due("2 above", x.atoms(11), -6);
        due("2 as it was", x.atoms(10), 10);
        x.banned(9, true);
        due("2 a banned one would go", x.atoms(9), -3);
        due("2 none would go", x.atoms(10), 10);
        x.banned(9, false);
        x.given(8, true);
        due("2 a given one would go", x.atoms(8), -3);
        due("2 the one behind it goes", x.atoms(9), 10);
        due("2 refused first by its number", x.atoms(0), -4);
        HoldWorlds y = of("a");
        due("2 rules", y.atoms(4), -3);
        due("2 rules, above", y.atoms(11), -6);
        y.put(0, false);
        due("2 rules that are out", y.atoms(4), -3);
        HoldWorlds z = new HoldWorlds();
        wish(z, ":a", 0, 1);
        due("2 wishes", z.atoms(5), -3);
        due("2 nothing changed", z.count(0), 4);
    }

    static void weight() {
        HoldWorlds x = new HoldWorlds();
        due("3 first", x.weight(3, 99), 1);
        due("3 then", x.weight(3, 0), 99);
        due("3 then", x.weight(3, 0), 0);
        due("3 none", x.weight(4, 1), -1);
        due("3 none, below", x.weight(4, -1), -1);
        due("3 none", x.weight(-1, 1), -1);
        due("3 below", x.weight(0, -1), -4);
        due("3 above", x.weight(0, 100), -6);
        due("3 refused, so as it was", x.weight(0, 1), 1);
        HoldWorlds y = of("{a}", "b:[a<5]");
        due("3 light", y.holds(1, 1), 1);
        y.weight(0, 5);
        due("3 heavy", y.holds(1, 1), 0);
        due("3 worlds of now", y.sure(1), 3);
        due("3 worlds of now", y.world(3), 0);
        y.weight(0, 4);
        due("3 worlds again", y.sure(0), 2);
    }

    static void tape() {
        HoldWorlds x = new HoldWorlds();
        due("4 one", x.feed(1, 0xffffff61L), 1);
        due("4 lowest alone came", x.rule(), 0);
        due("4 none", x.feed(0, 97), -4);
        due("4 below", x.feed(-5, 97), -4);
        due("4 nine", x.feed(9, 97), -6);
        for (int i = 1; i <= 7; i++) {
            due("4 eights", x.feed(8, 0L), 8 * i);
        }
        due("4 61", x.feed(5, 0), -6);
        due("4 still 56", x.count(5), 56);
        due("4 60", x.feed(4, 0), 60);
        due("4 full", x.feed(1, 0), -6);
        due("4 full, below", x.feed(0, 0), -4);
        due("4 refusals", x.count(16), 3);
        due("4 a fault empties it", x.rule(), -20);
        due("4 none on it", x.count(5), 0);
        due("4 the highest byte, too", x.feed(8, 0x61_2c_62_2c_63_3a_62_61L), 8);
        due("4 in their order", x.rule(), -21);
    }

    private static void fault(String text, int place) {
        HoldWorlds x = new HoldWorlds();
        due("5 fault of " + text, rule(x, text), -20 - place);
        due("5 not counted " + text, x.count(1), 0);
        due("5 no tape " + text, x.count(5), 0);
    }

    static void faults() {
        fault("", 0);
        fault("A", 0);
        fault("!a", 0);
        fault("[a<1]", 0);
        fault("|a", 0);
        fault("ab", 1);
        fault("a,b", 1);
        fault("a|", 2);
        fault("a|:b", 2);
        fault("a|b|c|e", 6);
        fault("a|b|c|d|", 7);
        fault("{", 1);
        fault("{a", 2);
        fault("{a|b}", 2);
        fault("{a,}", 3);
        fault("{a,b,c,d,a,b,", 12);
        fault("{a}-", 3);
        fault("{a}1:", 4);
        fault("{a}1-", 5);
        fault("{a}1-x", 5);
        fault("{a}1-23", 6);
        fault("{a}|b", 3);
        fault(":", 1);
        fault("::a", 1);
        fault(":a:b", 2);
        fault(":!", 2);
        fault(":![a<1]", 2);
        fault(":a b", 2);
        fault(":[", 2);
        fault(":[]", 2);
        fault(":[!a<1]", 2);
        fault(":[a,b<1]", 3);
        fault(":[a]", 3);
        fault(":[a<", 4);
        fault(":[a<]", 4);
        fault(":[a<-1]", 4);
        fault(":[a<1", 5);
        fault(":[a<12+b]", 6);
        fault(":[a<123", 7);
        fault(":[a<1234]", 7);
        fault(":[a<1],", 7);
        fault(":[a+b+c+d+a+b+c<1]", 13);
        fault("a:a,a,a,a,a,a,a,a,", 17);
        fault(":\u00e1", 1);
        fault("a\u0000", 1);
    }

    static void rules() {
        HoldWorlds x = of("a", "a|b|c|d", "{a,b,c,d,a,b}0-9:[a+b+c+d+a+b<999]", "{a}3-1", "a:b,b,b,b,b,b,b,b",
                "a:[b<007],!c,d", "{a}9-0", "{a,b}:c");
        due("5 how many", x.count(1), 8);
        HoldWorlds y = ofAtoms(10);
        due("5 the last letter", rule(y, "j"), 0);
        due("5 no letter", rule(y, "k"), -20);
        for (int i = 1; i < 30; i++) {
            due("5 number", rule(y, "j:a"), i);
        }
        y.feed(1, 97);
        due("5 thirty", y.rule(), -6);
        due("5 the tape stays", y.count(5), 1);
        y.feed(1, 63);
        due("5 thirty, with a fault", y.rule(), -6);
        due("5 counted", y.count(16), 2);
        due("5 still thirty", y.count(1), 30);
        due("5 the last can be put", y.put(29, false), 1);
        due("5 and asked", y.ruleOf(29, 4), 0);
    }

    static void wishes() {
        HoldWorlds x = new HoldWorlds();
        due("6 first", wish(x, ":a", 0, 1), 0);
        due("6 second", wish(x, ":!a,[b+c<3]", 3, 99), 1);
        due("6 not a bar", wish(x, "a", 0, 1), -20);
        due("6 not a bar, and worse", wish(x, "a|", 0, 1), -20);
        due("6 nothing", x.wish(0, 1), -20);
        due("6 lacks", wish(x, ":", 0, 1), -21);
        due("6 fault", wish(x, ":a,,", 0, 1), -23);
        due("6 no tape", x.count(5), 0);
        due("6 faults are no refusals", x.count(14) + x.count(16), 0);
        x.feed(2, 0x613aL);
        due("6 below before above", x.wish(4, 0), -4);
        due("6 below before above", x.wish(-1, 100), -4);
        due("6 rank", x.wish(4, 1), -6);
        due("6 cost", x.wish(0, 100), -6);
        due("6 the tape stays", x.count(5), 2);
        due("6 so it is one", x.wish(0, 1), 2);
        for (int i = 3; i < 20; i++) {
            due("6 number", wish(x, ":b", 1, 1), i);
        }
        x.feed(1, 97);
        due("6 twenty", x.wish(0, 1), -6);
        due("6 twenty, but below", x.wish(0, 0), -4);
        due("6 twenty", x.count(3), 20);
        due("6 the tape stays", x.count(5), 1);
    }

    static void put() {
        HoldWorlds x = of("a", "b:a");
        due("7 is so", x.put(0, true), 0);
        due("7 out", x.put(0, false), 1);
        due("7 is out", x.put(0, false), 0);
        due("7 the other is in", x.ruleOf(1, 4), 1);
        due("7 in", x.put(0, true), 1);
        due("7 none", x.put(2, false), -1);
        due("7 none", x.put(-1, false), -1);
        due("7 worlds", x.next(-1), 3);
        x.put(1, false);
        due("7 worlds without it", x.next(-1), 1);
    }

    static void givenAndBanned() {
        HoldWorlds x = of("b:a");
        due("8 is so", x.given(0, false), 0);
        due("8 given", x.given(0, true), 1);
        due("8 is so", x.given(0, true), 0);
        due("8 world", x.next(-1), 3);
        due("8 none", x.given(4, true), -1);
        due("8 none", x.given(-1, true), -1);
        due("9 given", x.banned(0, true), -3);
        due("9 given", x.banned(0, false), -3);
        due("9 none", x.banned(4, true), -1);
        due("9 none", x.banned(-1, false), -1);
        due("9 is so", x.banned(1, false), 0);
        due("9 banned", x.banned(1, true), 1);
        due("9 is so", x.banned(1, true), 0);
        due("9 no world", x.worlds(), 0);
        due("8 banned", x.given(1, true), -3);
        due("8 banned", x.given(1, false), -3);
        due("8 no more", x.given(0, false), 1);
        due("9 a world again", x.next(-1), 0);
        due("8 bits", x.count(7), 0);
        due("9 bits", x.count(8), 2);
    }

    static void ruleOf() {
        HoldWorlds x = of("a:b,!c,[d<2]", "a|b|a", "{a,d}", ":!a,!d,b");
        int[][] want = {{1, 1, 2, 4, 1}, {2, 3, 0, 0, 1}, {3, 9, 0, 0, 1}, {4, 0, 2, 9, 1}};
        for (int r = 0; r < 4; r++) {
            for (int what = 0; what < 5; what++) {
                due("10 rule " + r + " what " + what, x.ruleOf(r, what), want[r][what]);
            }
        }
        due("10 what", x.ruleOf(0, 5), -2);
        due("10 what", x.ruleOf(0, -1), -2);
        due("10 none first", x.ruleOf(4, 5), -1);
        due("10 none", x.ruleOf(-1, 0), -1);
    }

    static void holds() {
        HoldWorlds x = of("a:b,!c,[a+d+a<3]", "a", ":[a<0]");
        due("11 so", x.holds(0, 2), 1);
        due("11 lacks", x.holds(0, 0), 0);
        due("11 unless", x.holds(0, 6), 0);
        due("11 twice", x.holds(0, 3), 1);
        due("11 twice and another", x.holds(0, 11), 0);
        due("11 no body", x.holds(1, 0), 1);
        due("11 below nothing", x.holds(2, 0), 0);
        x.put(0, false);
        due("11 out is no matter", x.holds(0, 2), 1);
        due("11 no rule", x.holds(3, 0), -1);
        due("11 no rule", x.holds(-1, 0), -1);
        due("11 no set", x.holds(0, 16), -1);
        due("11 no set", x.holds(0, -1), -1);
    }

    static void broken() {
        HoldWorlds x = of("a:b", "c|d:a", "{a,a,b}2-2", ":c,d");
        due("12 an atom", x.broken(2), 0);
        due("12 or", x.broken(1), 1);
        due("12 or not", x.broken(5), -9);
        due("12 few", x.broken(0), 2);
        due("12 many", x.broken(7), 2);
        due("12 bar", x.broken(13), 3);
        x.put(3, false);
        due("12 out", x.broken(13), -9);
        x.given(1, true);
        due("12 given ones have no number", x.broken(13), -9);
        due("12 no set", x.broken(16), -1);
        HoldWorlds y = of("{a}3-1");
        due("12 none can be", y.broken(0), 0);
        due("12 none can be", y.broken(1), 0);
        due("12 without a range", of("{a,b}").broken(0), -9);
    }

    static void stepsAndUnheld() {
        HoldWorlds x = of("a", "b:a", "c:b,a", "{c,d}:c", "a|d:b");
        due("13 first", x.step(15, 0), 1);
        due("13 second", x.step(15, 1), 2);
        due("13 third", x.step(15, 2), 3);
        due("13 choice", x.step(15, 3), 4);
        due("13 not in it", x.step(7, 3), -9);
        due("14 all", x.unheld(15), 0);
        due("14 one behind a gap", x.unheld(13), 12);
        x.put(0, false);
        due("14 an or of two", x.unheld(11), 11);
        x.given(1, true);
        due("13 given", x.step(2, 1), 1);
        due("13 or alone", x.step(10, 3), 2);
        due("13 or with another", x.step(11, 3), -9);
        due("13 given, but not in it", x.step(1, 1), -9);
        due("14 some", x.unheld(11), 9);
        due("14 none of none", x.unheld(0), 0);
        due("13 no atom", x.step(0, 4), -1);
        due("13 no atom", x.step(0, -1), -1);
        due("13 no set", x.step(16, 0), -1);
        due("14 no set", x.unheld(16), -1);
        due("14 no set", x.unheld(-1), -1);
        due("13 the body must hold in the set", of("a", "b:a,!c", "c:b").step(7, 1), -9);
        HoldWorlds chain = ofAtoms(10, "j:i", "i:h", "h:g", "g:f", "f:e", "e:d", "d:c", "c:b", "b:a", "a");
        due("13 the longest", chain.step(1023, 9), 10);
        due("14 the longest", chain.unheld(1023), 0);
    }

    static void world() {
        HoldWorlds loop = of("a:b", "b:a");
        due("15 nothing holds itself up", loop.world(3), 0);
        due("15 the empty one", loop.world(0), 1);
        HoldWorlds or = of("a|b", "c:a", "c:b", "a:c", "b:c");
        due("15 or, held by its round", or.world(7), 1);
        due("15 or, less breaks", or.world(1), 0);
        due("15 or, one too many", or.world(15), 0);
        due("15 held, though not carried", or.unheld(7), 7);
        HoldWorlds choice = of("{a,b}", "c|d:a");
        due("15 choice beside or", choice.world(7), 1);
        due("15 choice beside or", choice.world(3), 0);
        due("15 not minimal", choice.world(13), 0);
        HoldWorlds out = of("a|b:c", "d:d");
        due("15 with an or", out.world(8), 0);
        out.put(0, false);
        due("15 without", out.world(8), 0);
        HoldWorlds same = of("a|a");
        due("15 the same twice", same.world(1), 1);
        due("15 the same twice is carried", same.unheld(1), 0);
        HoldWorlds ors = of("a|b", "a|c:b", "b|c:a");
        due("15 ors alone, held by their round", ors.world(3), 1);
        due("15 ors alone, not carried", ors.unheld(3), 3);
        HoldWorlds told = of("a|b");
        told.given(0, true);
        due("15 given", told.world(2), 0);
        due("15 given", told.world(1), 1);
        due("15 given, and more", told.world(3), 0);
        told.given(0, false);
        told.banned(0, true);
        due("15 banned", told.world(1), 0);
        due("15 banned", told.world(2), 1);
        due("15 no set", told.world(16), -1);
        due("15 no set", told.world(-1), -1);
    }

    static void worldsInOrder() {
        HoldWorlds x = of("{b,d}");
        due("16 first", x.next(-1), 0);
        due("16 above", x.next(0), 2);
        due("16 between", x.next(3), 8);
        due("16 above", x.next(8), 10);
        due("16 no more", x.next(10), -9);
        due("16 the last set", x.next(15), -9);
        due("16 no set", x.next(16), -1);
        due("16 no set", x.next(-2), -1);
        due("16 refusals", x.count(11), 2);
        due("17 how many", x.worlds(), 4);
        HoldWorlds all = ofAtoms(10, "{a,b,c,d,e,f}", "{g,h,i,j}");
        due("17 all", all.worlds(), 1024);
        due("16 the last of all", all.next(1022), 1023);
        due("17 none", of("a:!a").worlds(), 0);
        due("16 none", of("a:!a").next(-1), -9);
    }

    static void sureAndShown() {
        HoldWorlds x = of("a", "{b,c}1-1", "d:b");
        due("18 sure", x.sure(0), 1);
        due("18 some", x.sure(1), 15);
        due("18 what", x.sure(2), -2);
        due("18 what", x.sure(-1), -2);
        due("19 all", x.shown(15), 2);
        due("19 one of two", x.shown(2), 2);
        due("19 the same in all", x.shown(1), 1);
        due("19 nothing", x.shown(0), 1);
        due("19 no set", x.shown(16), -1);
        rule(x, ":a");
        due("18 none", x.sure(0), -9);
        due("18 none", x.sure(1), -9);
        due("18 none, what", x.sure(2), -2);
        due("19 none", x.shown(15), 0);
        due("19 no atom of it", ofAtoms(5, "{a,b,c,d,e}2-3").shown(3), 4);
    }

    static void costs() {
        HoldWorlds x = of("{a,b}");
        wish(x, ":a", 0, 9);
        wish(x, ":!a", 1, 2);
        wish(x, ":b", 1, 3);
        wish(x, ":c", 1, 50);
        due("20 together", x.cost(2, 1), 5);
        due("20 another rank", x.cost(1, 0), 9);
        due("20 none", x.cost(1, 3), 0);
        due("20 of a set that is no world", x.cost(4, 1), 52);
        due("20 below", x.cost(0, -1), -4);
        due("20 above", x.cost(0, 4), -6);
        due("20 no set first", x.cost(16, 4), -1);
        due("21 the higher rank first", x.best(0), 1);
        due("21 even", x.best(1), 1);
        due("22 even", x.even(1), 1);
        due("22 no world", x.even(4), -3);
        due("22 no set", x.even(16), -1);
        due("21 what", x.best(2), -2);
        due("21 what", x.best(-1), -2);
        HoldWorlds y = of("{a,b}1-1", "{c}");
        due("21 of several the least", y.best(0), 1);
        due("21 all even", y.best(1), 4);
        wish(y, ":c", 3, 1);
        wish(y, ":a", 2, 99);
        wish(y, ":b", 2, 99);
        due("21 two even", y.best(1), 2);
        due("22 of another", y.even(6), 2);
        rule(y, ":!d");
        due("21 none", y.best(0), -9);
        due("21 none", y.best(1), -9);
        due("21 none, what", y.best(2), -2);
        due("22 none", y.even(1), -3);
    }

    static void allWishesAtOnce() {
        HoldWorlds x = of("{a}");
        for (int i = 0; i < 20; i++) {
            wish(x, i < 1 ? ":!a" : ":a", i < 1 ? 1 : 0, 99);
        }
        due("21 a higher rank is more than all below", x.best(0), 1);
        due("20 nineteen", x.cost(1, 0), 1881);
        for (int rank = 0; rank <= 3; rank++) {
            HoldWorlds one = of("{a}");
            wish(one, ":!a", rank, 1);
            due("21 rank " + rank + " alone", one.best(0), 1);
            due("21 rank " + rank + " alone, even", one.best(1), 1);
        }
    }

    static void bounds() {
        HoldWorlds x = of("a", "b:a,!c", "c:d", "{d}");
        due("23 below", x.bound(0), 1);
        due("23 above", x.bound(1), 15);
        x.put(3, false);
        due("23 below in a second round", x.bound(0), 3);
        due("23 above in a second round", x.bound(1), 3);
        due("23 what", x.bound(2), -2);
        due("23 what", x.bound(-1), -2);
        HoldWorlds few = of("{a,b}", "c:[a+b<2]", "d:[a+b<3]");
        due("23 below even if all", few.bound(0), 8);
        due("23 above as if below alone", few.bound(1), 15);
        few.given(0, true);
        few.given(1, true);
        due("23 given ones", few.bound(0), 11);
        due("23 above without", few.bound(1), 11);
        HoldWorlds or = of("a|b", "c:a");
        due("23 or is not below", or.bound(0), 0);
        due("23 or is above", or.bound(1), 7);
        or.banned(0, true);
        due("23 banned is no matter", or.bound(1), 7);
        HoldWorlds even = of("a:!b", "b:!a", "c:!c");
        due("23 undecided", even.bound(0), 0);
        due("23 undecided", even.bound(1), 7);
    }

    static void whys() {
        HoldWorlds x = of("c:b", "a:c", "a", "b:a", "{b,d}:a", "a|d:!b");
        due("24 the step's first", x.why(15, 0), 2);
        due("24 of several", x.why(15, 1), 3);
        due("24 choice", x.why(15, 3), 4);
        due("24 third step", x.why(15, 2), 0);
        due("24 not in it", x.why(7, 3), -9);
        due("24 nothing does", x.why(2, 1), -9);
        x.given(0, true);
        due("24 given", x.why(15, 0), 90);
        due("24 given, not in it", x.why(14, 0), -9);
        due("24 no set", x.why(16, 0), -1);
        due("24 no atom", x.why(0, 4), -1);
        HoldWorlds y = of("a:b,c", "a|d:!b,c,[a+d<1]", "b");
        due("25 first", y.whyNot(0, 0), 0);
        due("25 second part", y.whyNot(2, 0), 1);
        due("25 second rule, unless", y.whyNot(6, 0), 10);
        due("25 second rule, so few", y.whyNot(13, 3), 12);
        due("25 just as many as the number", y.whyNot(12, 3), 12);
        due("25 it may be in the set", y.whyNot(1, 0), 0);
        due("25 no body", y.whyNot(0, 1), -9);
        due("25 in no head", y.whyNot(0, 2), -9);
        y.put(0, false);
        due("25 out", y.whyNot(0, 0), 11);
        due("25 no set", y.whyNot(-1, 0), -1);
        due("25 no atom", y.whyNot(0, -1), -1);
        HoldWorlds chain = ofAtoms(10, "j:i", "i:h", "h:g", "g:f", "f:e", "e:d", "d:c", "c:b", "b:a", "a");
        due("24 the longest", chain.why(1023, 9), 0);
        HoldWorlds z = of("a:b,b,b,b,b,b,b,!b");
        due("25 the last part", z.whyNot(2, 0), 7);
    }

    static void doubts() {
        HoldWorlds x = of("a", ":a", "b", ":b", "c", ":c", "d", ":d");
        due("26 is so", x.doubt(0, false), 0);
        due("26 no rule", x.doubt(8, true), -1);
        due("26 no rule", x.doubt(-1, true), -1);
        due("27 none", x.amends(), -9);
        for (int r = 0; r < 6; r++) {
            due("26 doubted", x.doubt(r, true), 1);
        }
        due("26 a seventh", x.doubt(6, true), -6);
        due("26 one that is", x.doubt(0, true), 0);
        due("26 one that is not", x.doubt(6, false), 0);
        due("26 six", x.count(4), 6);
        due("27 not enough", x.amends(), -9);
        x.put(6, false);
        due("27 the fewest, the least", x.amends(), 0b010101);
        x.put(1, false);
        due("27 of those that are in alone", x.amends(), 0b01010);
        x.put(1, true);
        due("26 not any more", x.doubt(0, false), 1);
        due("27 other bits", x.amends(), 0b01011);
        due("26 again room", x.doubt(7, true), 1);
        due("27 nothing was changed", x.count(2), 7);
        HoldWorlds y = of("a:!a", "b", ":b", "a:b");
        y.doubt(2, true);
        y.doubt(0, true);
        due("27 one is enough", y.amends(), 0b10);
        y.put(2, false);
        due("27 there is a world", y.amends(), 0);
        HoldWorlds either = of(":b", ":a", "a|b");
        either.doubt(0, true);
        either.doubt(1, true);
        due("27 of several the least, though its world is not", either.amends(), 0b01);
        HoldWorlds or = of("a|b:!d", "a:b", "b:a", ":a,!c", "c:c");
        or.doubt(1, true);
        or.doubt(2, true);
        or.doubt(0, true);
        due("27 or goes", or.amends(), 0b001);
    }

    static void images() {
        HoldWorlds x = of("{a,b}");
        due("29 no image", x.compared(0), -3);
        due("29 what first", x.compared(2), -2);
        due("29 what", x.compared(-1), -2);
        due("28 taken", x.image(), 4);
        due("29 as it was", x.compared(0), -9);
        due("29 as it was", x.compared(1), -9);
        x.banned(0, true);
        due("29 less now", x.compared(0), -9);
        due("29 was then", x.compared(1), 1);
        rule(x, "{c}");
        due("29 new", x.compared(0), 4);
        due("28 again", x.image(), 4);
        due("29 of now", x.compared(1), -9);
        rule(x, ":!d");
        due("29 all gone", x.compared(1), 0);
        due("28 none is an image, too", x.image(), 0);
        due("29 none", x.compared(1), -9);
        HoldWorlds y = new HoldWorlds();
        y.given(3, true);
        y.image();
        y.given(3, false);
        y.atoms(2);
        due("29 a set of more atoms", y.compared(1), 8);
        due("29 the empty one is new", y.compared(0), 0);
    }

    static void lines() {
        HoldWorlds x = of("a", "b:a", "c|d:b", ":d,!a");
        due("30 least", x.line(-128), 1);
        due("30 greatest", x.line(127), 2);
        due("30 below", x.line(-129), -4);
        due("30 above", x.line(128), -6);
        due("31 no atom", x.judge(), 0);
        due("31 none then", x.count(6), 0);
        for (int i = 1; i <= 12; i++) {
            due("30 room", x.line(0), i);
        }
        due("30 twelve", x.line(0), -6);
        due("30 twelve, below", x.line(-129), -4);
        due("31 twice", x.judge(), 1);
        due("31 so", judged(x, 0, 1, 2), -9);
        due("31 so", judged(x, 0, 1, 3), -9);
        due("31 order", judged(x, 1, 0, 2), 0);
        due("31 order", judged(x, 0, 2, 1), 1);
        due("31 or with another", judged(x, 0, 1, 2, 3), 2);
        due("31 breaks", judged(x, 0, 1), 102);
        due("31 breaks the first", judged(x), 100);
        due("31 no atom behind", judged(x, 0, 1, 4), 2);
        due("31 no atom behind, but another fails first", judged(x, 1, -1), 0);
        x.given(3, true);
        due("31 given lacks", judged(x, 0, 1, 2), 200);
        due("31 given comes when it likes", judged(x, 3, 0, 1), -9);
        x.given(3, false);
        x.banned(1, true);
        due("31 banned", judged(x, 0, 1, 2), 200);
        x.put(0, false);
        due("31 out", judged(x, 0), 0);
        due("31 nothing", judged(x), -9);
        HoldWorlds y = of("a:!b", "b");
        due("31 the set is of the whole row", judged(y, 0, 1), 0);
    }

    static void counts() {
        HoldWorlds x = of("a", "b", "c");
        x.put(1, false);
        x.doubt(0, true);
        x.doubt(1, true);
        wish(x, ":a", 0, 1);
        x.feed(3, 0);
        x.line(0);
        x.line(1);
        x.given(2, true);
        x.banned(0, true);
        x.banned(3, true);
        int[] want = {4, 3, 2, 1, 2, 3, 2, 4, 9, -9, -9, 0, 0, 0, 0, 0, 0, -9};
        for (int what = 0; what < want.length; what++) {
            due("32 what " + what, x.count(what), want[what]);
        }
        x.put(9, true);
        x.sure(9);
        x.sure(9);
        x.given(0, true);
        x.cost(0, -1);
        x.cost(0, 4);
        int[] refused = {1, 2, 1, 1, 0, 1};
        for (int i = 0; i < refused.length; i++) {
            due("32 refusals " + (i + 1), x.count(11 + i), refused[i]);
        }
        due("32 another", x.count(-1), -9);
        due("32 another", x.count(Integer.MAX_VALUE), -9);
        due("32 another", x.count(Integer.MIN_VALUE), -9);
        due("32 that is no refusal", x.count(12), 2);
    }

    private static void refused(String what, HoldWorlds x, int number, IntSupplier call) {
        int[] before = new int[7];
        for (int i = 1; i <= 6; i++) {
            before[i] = x.count(10 + i);
        }
        due("refused " + what, call.getAsInt(), number);
        for (int i = 1; i <= 6; i++) {
            due("refused " + what + ", counted under " + -i, x.count(10 + i), before[i] + (i == -number ? 1 : 0));
        }
    }

    static void refusals() {
        HoldWorlds x = of("a");
        x.given(0, true);
        x.banned(1, true);
        refused("atoms", x, -4, () -> x.atoms(0));
        refused("atoms", x, -6, () -> x.atoms(11));
        refused("atoms", x, -3, () -> x.atoms(4));
        refused("weight", x, -1, () -> x.weight(4, 0));
        refused("weight", x, -4, () -> x.weight(0, -1));
        refused("weight", x, -6, () -> x.weight(0, 100));
        refused("feed", x, -4, () -> x.feed(0, 0));
        refused("feed", x, -6, () -> x.feed(9, 0));
        refused("wish", x, -4, () -> x.wish(0, 0));
        refused("wish", x, -6, () -> x.wish(4, 1));
        refused("put", x, -1, () -> x.put(1, true));
        refused("given", x, -1, () -> x.given(4, true));
        refused("given", x, -3, () -> x.given(1, true));
        refused("banned", x, -1, () -> x.banned(4, true));
        refused("banned", x, -3, () -> x.banned(0, true));
        refused("ruleOf", x, -1, () -> x.ruleOf(1, 0));
        refused("ruleOf", x, -2, () -> x.ruleOf(0, 5));
        refused("holds", x, -1, () -> x.holds(1, 16));
        refused("broken", x, -1, () -> x.broken(16));
        refused("step", x, -1, () -> x.step(16, 4));
        refused("unheld", x, -1, () -> x.unheld(16));
        refused("world", x, -1, () -> x.world(16));
        refused("next", x, -1, () -> x.next(16));
        refused("sure", x, -2, () -> x.sure(2));
        refused("shown", x, -1, () -> x.shown(16));
        refused("cost", x, -1, () -> x.cost(16, 9));
        refused("cost", x, -4, () -> x.cost(0, -1));
        refused("cost", x, -6, () -> x.cost(0, 4));
        refused("best", x, -2, () -> x.best(2));
        refused("even", x, -1, () -> x.even(16));
        refused("even", x, -3, () -> x.even(0));
        refused("bound", x, -2, () -> x.bound(2));
        refused("why", x, -1, () -> x.why(16, 4));
        refused("whyNot", x, -1, () -> x.whyNot(16, 4));
        refused("doubt", x, -1, () -> x.doubt(1, true));
        refused("compared", x, -2, () -> x.compared(2));
        refused("compared", x, -3, () -> x.compared(0));
        refused("line", x, -4, () -> x.line(-129));
        refused("line", x, -6, () -> x.line(128));
        refused("count, which is no refusal", x, -9, () -> x.count(10));
        refused("rule, which is a fault", x, -20, () -> x.rule());
    }

    static void refusalsForRoom() {
        HoldWorlds x = new HoldWorlds();
        for (int i = 0; i < 30; i++) {
            rule(x, "a");
        }
        for (int i = 0; i < 6; i++) {
            x.doubt(29 - i, true);
        }
        refused("rule", x, -6, () -> x.rule());
        refused("doubt", x, -6, () -> x.doubt(0, true));
    }

    public static void main(String[] args) throws ReflectiveOperationException {
        runAll(PromiseTest.class);
    }
}
