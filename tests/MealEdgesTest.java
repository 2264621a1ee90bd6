/** Promises 10 to 12 at their edges: each test is for one sentence of the document, which it names. */
public final class MealEdgesTest {
    public static void main(String[] args) {
        eatWhatCannotBeByZero();
        eatWhatCannotBeByTen();
        eatWhatCannotBeAnyMore();
        eatWhatCanBeByOne();
        eatSixTimes();
        eatSixTimesByOne();
        eatAgainInAnotherCourt();
        eatUnknown();
        eatStateAheadOfFull();
        eatTellsTheLeastOfLikeOnes();
        beliefOfNothingAndAll();
        beliefInLowestTerms();
        beliefOfSixMeals();
        beliefUnknownAndOutside();
        judgedOfLikeOnes();
        judgedWithoutCourt();
        Due.end("MealEdgesTest");
    }

    private static void eatWhatCannotBeByZero() {
        Due.promise(10, "STATE: it cannot be");
        // -1, 0 and 1 tenths
        DryLoaf below = Due.court("h01,p91;4");
        Due.refused(below, "he chokes by -1", DryLoaf.STATE, () -> below.eat(0, true));
        DryLoaf none = Due.court("h01,p91;5");
        Due.refused(none, "he chokes by 0", DryLoaf.STATE, () -> none.eat(0, true));
        Due.due("he swallows by 10", none.eat(0, false), 0);
        DryLoaf one = Due.court("h11,p91;5");
        Due.due("he chokes by 1", one.eat(0, true), 0);
        DryLoaf buttered = Due.court("p21,p91;5");
        buttered.butter(0, 5);
        Due.refused(buttered, "he chokes with his need of butter", DryLoaf.STATE, () -> buttered.eat(0, true));
        buttered.butter(0, 4);
        Due.due("he chokes with less", buttered.eat(0, true), 0);
        Due.due("so he did it", buttered.belief(0, 1), 1);
    }

    private static void eatWhatCannotBeByTen() {
        Due.promise(10, "STATE: it cannot be");
        // 11, 10 and 9 tenths
        DryLoaf above = Due.court("h91,p01;7");
        Due.refused(above, "he swallows by 11", DryLoaf.STATE, () -> above.eat(0, false));
        DryLoaf all = Due.court("h91,p01;6");
        Due.refused(all, "he swallows by 10", DryLoaf.STATE, () -> all.eat(0, false));
        Due.due("he chokes by 10", all.eat(0, true), 0);
        DryLoaf nine = Due.court("h91,p01;5");
        Due.due("he swallows by 9", nine.eat(0, false), 0);
    }

    private static void eatWhatCannotBeAnyMore() {
        Due.promise(10, "STATE: it cannot be");
        // 3 tenths, if he did it, else none: 0 did it, so 1 cannot choke any more
        DryLoaf x = Due.court("p01,p01;5");
        Due.due("0 chokes", x.eat(0, true), 0);
        Due.refused(x, "1 chokes, too", DryLoaf.STATE, () -> x.eat(1, true));
        Due.due("1 swallows", x.eat(1, false), 0);
        Due.due("count(2)", x.count(2), 2);
        Due.due("count(3)", x.count(3), 1);
    }

    private static void eatWhatCanBeByOne() {
        Due.promise(10, "One EATS, and CHOKES or does not: who is JUDGED then");
        // a thief who chokes on it did not do it; a person of 10 tenths who swallows neither
        DryLoaf thief = Due.court("t99,p91;5");
        Due.due("judged() at first", thief.judged(), 0);
        Due.due("the thief chokes", thief.eat(0, true), 1);
        Due.belief(thief, 0, 0, 1);
        DryLoaf person = Due.court("p79,h01,h02;5");
        Due.due("the person swallows", person.eat(0, false), 2);
        Due.belief(person, 0, 0, 1);
        Due.belief(person, 1, 1, 3);
        Due.belief(person, 2, 2, 3);
    }

    private static void eatSixTimes() {
        Due.promise(10, "FULL: 6 times one ATE since THE COURT was read");
        DryLoaf x = Due.court("h21,h21,h21,h21;5");
        for (int i = 0; i < 6; i++) {
            Due.due("meal " + (i + 1), x.eat(i % 4, i % 2 == 0), 0);
            Due.due("count(2)", x.count(2), i + 1);
        }
        for (int i = 0; i < 4; i++) {
            int eater = i;
            Due.refused(x, "meal 7, eat(" + i + ", true)", DryLoaf.FULL, () -> x.eat(eater, true));
            Due.refused(x, "meal 7, eat(" + i + ", false)", DryLoaf.FULL, () -> x.eat(eater, false));
        }
        Due.due("count(2)", x.count(2), 6);
    }

    private static void eatSixTimesByOne() {
        Due.promise(10, "FULL: 6 times one ATE since THE COURT was read");
        DryLoaf x = Due.court("p21,p21;5");
        for (int i = 0; i < 6; i++) {
            Due.due("meal " + (i + 1), x.eat(1, false), 0);
        }
        Due.refused(x, "his seventh", DryLoaf.FULL, () -> x.eat(1, false));
        Due.refused(x, "the other's first", DryLoaf.FULL, () -> x.eat(0, true));
        x.loaf(9);
        x.butter(1, 3);
        x.forget();
        Due.refused(x, "nothing else makes room", DryLoaf.FULL, () -> x.eat(1, true));
    }

    private static void eatAgainInAnotherCourt() {
        Due.promise(10, "FULL: 6 times one ATE since THE COURT was read");
        DryLoaf x = Due.court("h21,h21;5");
        for (int i = 0; i < 6; i++) {
            x.eat(0, true);
        }
        Due.write(x, "h21,h21");
        x.court();
        Due.refused(x, "a court that was refused makes no room", DryLoaf.FULL, () -> x.eat(0, true));
        Due.write(x, ";5");
        Due.due("court()", x.court(), 2);
        for (int i = 0; i < 6; i++) {
            Due.due("meal " + (i + 1) + " of another court", x.eat(0, true), 0);
        }
        Due.refused(x, "meal 7 of another court", DryLoaf.FULL, () -> x.eat(0, true));
    }

    private static void eatUnknown() {
        Due.promise(10, "UNKNOWN; STATE: it cannot be; FULL");
        DryLoaf x = Due.court("h21,h21,h21;5");
        for (int nobody : Due.nobodyOf(3)) {
            Due.refused(x, "eat(" + nobody + ", true)", DryLoaf.UNKNOWN, () -> x.eat(nobody, true));
        }
        for (int i = 0; i < 6; i++) {
            x.eat(2, false);
        }
        for (int nobody : Due.nobodyOf(3)) {
            Due.refused(x, "eat(" + nobody + ", false) when full", DryLoaf.UNKNOWN, () -> x.eat(nobody, false));
        }
        Due.due("without a court", new DryLoaf().eat(0, false), DryLoaf.UNKNOWN);
    }

    private static void eatStateAheadOfFull() {
        Due.promise(10, "STATE: it cannot be; FULL: 6 times");
        DryLoaf x = Due.court("h01,h91;6");
        for (int i = 0; i < 6; i++) {
            x.eat(1, true);
        }
        Due.refused(x, "he swallows, which cannot be", DryLoaf.STATE, () -> x.eat(1, false));
        Due.refused(x, "he chokes, which can be", DryLoaf.FULL, () -> x.eat(1, true));
        x.loaf(5);
        Due.refused(x, "another chokes, which cannot be", DryLoaf.STATE, () -> x.eat(0, true));
        Due.refused(x, "another swallows, which can be", DryLoaf.FULL, () -> x.eat(0, false));
    }

    private static void eatTellsTheLeastOfLikeOnes() {
        Due.promise(10, "who is JUDGED then");
        // 2 times 5, 5 times 2
        DryLoaf x = Due.court("p22,p25;5");
        Due.due("judged() at first", x.judged(), 1);
        Due.due("eat(0, true)", x.eat(0, true), 0);
        Due.belief(x, 0, 1, 2);
        // 1 times 2, 1 times 2, 1 times 5, then 2, 2 times 8, 5 times 5
        DryLoaf y = Due.court("p21,p21,p21;5");
        Due.due("eat(2, true)", y.eat(2, true), 2);
        Due.due("eat(2, false)", y.eat(2, false), 2);
        // 16, 16, 25 times 8, 8, 5 is 128, 128, 125
        Due.due("eat(2, false) again", y.eat(2, false), 0);
        Due.belief(y, 1, 128, 381);
    }

    private static void beliefOfNothingAndAll() {
        Due.promise(11, "in lowest terms (0 of 1)");
        DryLoaf x = Due.court("p09,p01,p09,p09;5");
        x.eat(1, true);
        Due.belief(x, 0, 0, 1);
        Due.belief(x, 1, 1, 1);
        Due.belief(x, 2, 0, 1);
        Due.belief(x, 3, 0, 1);
    }

    private static void beliefInLowestTerms() {
        Due.promise(11, "0 above, 1 below, in lowest terms");
        DryLoaf x = Due.court("p09,p01,p01,p01;5");
        Due.belief(x, 0, 3, 4);
        Due.belief(x, 3, 1, 12);
        DryLoaf y = Due.court("p09,p09,p09,p09;5");
        Due.belief(y, 3, 1, 4);
        DryLoaf z = Due.court("p06,p04;5");
        Due.belief(z, 0, 3, 5);
        Due.belief(z, 1, 2, 5);
    }

    private static void beliefOfSixMeals() {
        Due.promise(11, "BELIEF: what = 0 above, 1 below");
        // 7 tenths or 4, and 9 or 6, by turns
        DryLoaf x = Due.court("p49,p67;5");
        for (int i = 0; i < 6; i++) {
            x.eat(i % 2, true);
        }
        // 9 * 343 * 216 = 666792, 7 * 64 * 729 = 326592: by 13608 that is 49, 24
        Due.belief(x, 0, 49, 73);
        Due.belief(x, 1, 24, 73);
        // 7 tenths or 4, six times: 9 * 117649, 9 * 4096, 8 * 4096, 7 * 4096, which 3 divides together
        DryLoaf y = Due.court("p49,p99,p98,p97;5");
        for (int i = 0; i < 6; i++) {
            y.eat(0, true);
        }
        Due.belief(y, 0, 352947, 385715);
        Due.due("judged()", y.judged(), 0);
    }

    private static void beliefUnknownAndOutside() {
        Due.promise(11, "UNKNOWN; OUTSIDE");
        DryLoaf x = Due.court("p21,p21;5");
        for (int nobody : Due.nobodyOf(2)) {
            Due.refused(x, "belief(" + nobody + ", 0)", DryLoaf.UNKNOWN, () -> x.belief(nobody, 0));
            Due.refused(x, "belief(" + nobody + ", 2)", DryLoaf.UNKNOWN, () -> x.belief(nobody, 2));
        }
        for (int what : Due.outsideOf(0, 1)) {
            Due.refused(x, "belief(1, " + what + ")", DryLoaf.OUTSIDE, () -> x.belief(1, what));
        }
        Due.due("without a court", new DryLoaf().belief(0, 2), DryLoaf.UNKNOWN);
    }

    private static void judgedOfLikeOnes() {
        Due.promise(12, "JUDGED is that one in whom there is most BELIEF: of like ones the least");
        Due.due("two alike", Due.court("p09,p09;5").judged(), 0);
        Due.due("four alike", Due.court("p01,p01,p01,p01;5").judged(), 0);
        Due.due("the last three alike", Due.court("p01,p02,p02,p02;5").judged(), 1);
        Due.due("the last two alike", Due.court("p01,p01,p09,p09;5").judged(), 2);
        Due.due("the last", Due.court("p08,p08,p08,p09;5").judged(), 3);
        Due.due("the last of two", Due.court("p01,p02;5").judged(), 1);
    }

    private static void judgedWithoutCourt() {
        Due.promise(12, "STATE: no COURT");
        DryLoaf x = new DryLoaf();
        Due.refused(x, "judged()", DryLoaf.STATE, x::judged);
        Due.write(x, "p01,p02;5");
        Due.refused(x, "judged() with a page", DryLoaf.STATE, x::judged);
        x.court();
        Due.due("judged() with a court", x.judged(), 1);
    }
}
