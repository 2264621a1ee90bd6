/** Promises 13 and 14 at their edges: each test is for one sentence of the document, which it names. */
public final class WouldBeEdgesTest {
    public static void main(String[] args) {
        rightByNothing();
        rightByThree();
        rightOfLikeOnes();
        rightByTheLast();
        rightWhateverCame();
        rightOfOne();
        rightWhenFull();
        rightOutside();
        rightWithoutCourt();
        rightTwentyTimes();
        rightRefusedIsNotDone();
        rightOutsideAheadOfState();
        rightInAnotherCourt();
        driestOfOneAndNine();
        driestOfLikeOnes();
        driestOfOne();
        driestWithButter();
        driestUnknownAndOutside();
        driestChangesNothing();
        Due.end("WouldBeEdgesTest");
    }

    private static void rightByNothing() {
        Due.promise(13, "RIGHT by nothing: BELIEF in whom is JUDGED now .. none for 0 LOAVES");
        Due.right(Due.court("p03,p07;5"), 0, 7, 10, DryLoaf.NONE);
        Due.right(Due.court("p09,p09,p09,p09;5"), 0, 1, 4, DryLoaf.NONE);
        DryLoaf x = Due.court("p22,p25;5");
        x.eat(0, false);
        // 2 times 5, 5 times 8
        Due.right(x, 0, 4, 5, DryLoaf.NONE);
    }

    private static void rightByThree() {
        Due.promise(13, "RIGHT by so many LOAVES (0 to 3)");
        // he chokes by 3, if he did it, else never: he who chokes did it
        DryLoaf x = Due.court("p01,p01;5");
        Due.right(x, 0, 1, 2, DryLoaf.NONE);
        // 3; else 7, 10
        Due.right(x, 1, 13, 20, 0);
        // 30; else 21; else 49, 100
        Due.right(x, 2, 151, 200, 0);
        // 300; else 210; else 147; else 343, 1000
        Due.right(x, 3, 1657, 2000, 0);
    }

    private static void rightOfLikeOnes() {
        Due.promise(13, "who had best EAT first: of like ones the least");
        DryLoaf none = Due.court("h51,w51,h51,w51;5");
        DryLoaf two = Due.court("h51,w51,p01,p01;5");
        DryLoaf all = Due.court("p01,p01,p01,p01;5");
        for (int loaves = 1; loaves <= 3; loaves++) {
            Due.due("nobody tells: right(" + loaves + ", 2)", none.right(loaves, 2), 0);
            Due.due("2 and 3 tell alike: right(" + loaves + ", 2)", two.right(loaves, 2), 2);
            Due.due("all tell alike: right(" + loaves + ", 2)", all.right(loaves, 2), 0);
        }
    }

    private static void rightByTheLast() {
        Due.promise(13, "2 who EATS first");
        // 3; else 10, 10, 10, 7
        Due.right(Due.court("h21,h21,h21,p01;5"), 1, 13, 40, 3);
        Due.right(Due.court("h21,p01;5"), 1, 13, 20, 1);
    }

    private static void rightWhateverCame() {
        Due.promise(13, "each time who had best do so, whatever came of those before");
        // 0 chokes by 8 or 5, 1 by 1 or 4, 2 by 5: from 5, 3, 2 it is 0 who eats 1 loaf best, but 1 the first of 3
        DryLoaf x = Due.court("p45,t43,w12;6");
        Due.right(x, 1, 11, 20, 0);
        Due.right(x, 3, 839, 1250, 1);
        // each by 3 or none: 0 chokes, and all is known; else 1 eats, so that each is asked once
        DryLoaf y = Due.court("p01,p01,p01;5");
        // 3, then 30; else 7, 10, 10: by 1, 30 and 70, 70, 100; by 0, 21 and 49, 100, 100
        Due.right(y, 2, 8, 15, 0);
    }

    private static void rightOfOne() {
        Due.promise(13, "0 above, 1 below, in lowest terms");
        DryLoaf x = Due.court("p01,p01,p01,p01;5");
        x.eat(3, true);
        for (int loaves = 0; loaves <= 3; loaves++) {
            Due.right(x, loaves, 1, 1, loaves == 0 ? DryLoaf.NONE : 0);
        }
    }

    private static void rightWhenFull() {
        Due.promise(13, "RIGHT by so many LOAVES");
        DryLoaf x = Due.court("p01,p01;5");
        for (int i = 0; i < 6; i++) {
            x.eat(i % 2, false);
        }
        // like ones again: what would be is told, though nobody may eat any more
        Due.due("eat()", x.eat(0, false), DryLoaf.FULL);
        Due.right(x, 3, 1657, 2000, 0);
        Due.due("count(2)", x.count(2), 6);
    }

    private static void rightOutside() {
        Due.promise(13, "OUTSIDE: loaves (0 to 3), what");
        DryLoaf x = Due.court("p01,p01;5");
        for (int loaves : Due.outsideOf(0, 3)) {
            Due.refused(x, "right(" + loaves + ", 0)", DryLoaf.OUTSIDE, () -> x.right(loaves, 0));
        }
        for (int what : Due.outsideOf(0, 2)) {
            Due.refused(x, "right(1, " + what + ")", DryLoaf.OUTSIDE, () -> x.right(1, what));
        }
    }

    private static void rightWithoutCourt() {
        Due.promise(13, "STATE: no COURT");
        DryLoaf x = new DryLoaf();
        for (int loaves = 0; loaves <= 3; loaves++) {
            for (int what = 0; what <= 2; what++) {
                int l = loaves;
                int w = what;
                Due.refused(x, "right(" + l + ", " + w + ")", DryLoaf.STATE, () -> x.right(l, w));
            }
        }
        Due.write(x, "p01,p01;5");
        Due.refused(x, "right(0, 0) with a page", DryLoaf.STATE, () -> x.right(0, 0));
    }

    private static void rightTwentyTimes() {
        Due.promise(13, "STATE: .. or right() was done 20 times");
        DryLoaf x = Due.court("p01,p01;5");
        for (int i = 0; i < 20; i++) {
            Due.due("count(8)", x.count(8), i);
            Due.due("right() for the " + (i + 1) + "th time", x.right(0, i % 3), i % 3 == 2 ? -1 : i % 3 + 1);
        }
        Due.due("count(8)", x.count(8), 20);
        for (int loaves = 0; loaves <= 3; loaves++) {
            int l = loaves;
            Due.refused(x, "right(" + l + ", 0) for the 21st time", DryLoaf.STATE, () -> x.right(l, 0));
        }
        Due.due("driest() is still told", x.driest(0, 0), 5);
    }

    private static void rightRefusedIsNotDone() {
        Due.promise(13, "right() was done 20 times");
        DryLoaf x = new DryLoaf();
        for (int i = 0; i < 25; i++) {
            x.right(0, 0);
            x.right(4, 0);
            x.right(0, 3);
        }
        Due.write(x, "p01,p01;5");
        x.court();
        Due.due("count(8)", x.count(8), 0);
        for (int i = 0; i < 19; i++) {
            x.right(0, 0);
        }
        x.right(-1, 0);
        x.digest();
        Due.due("the 20th", x.right(1, 0), 13);
        Due.due("the 21st", x.right(1, 0), DryLoaf.STATE);
    }

    private static void rightOutsideAheadOfState() {
        Due.promise(13, "OUTSIDE: loaves (0 to 3), what; STATE");
        DryLoaf x = new DryLoaf();
        Due.refused(x, "right(4, 0) without a court", DryLoaf.OUTSIDE, () -> x.right(4, 0));
        Due.refused(x, "right(0, 3) without a court", DryLoaf.OUTSIDE, () -> x.right(0, 3));
        DryLoaf y = Due.court("p01,p01;5");
        for (int i = 0; i < 20; i++) {
            y.right(0, 0);
        }
        Due.refused(y, "right(-1, 0) for the 21st time", DryLoaf.OUTSIDE, () -> y.right(-1, 0));
        Due.refused(y, "right(0, -1) for the 21st time", DryLoaf.OUTSIDE, () -> y.right(0, -1));
    }

    private static void rightInAnotherCourt() {
        Due.promise(13, "right() was done 20 times");
        DryLoaf x = Due.court("p01,p01;5");
        x.image();
        for (int i = 0; i < 20; i++) {
            x.right(0, 0);
        }
        x.restore();
        Due.refused(x, "right(0, 0) behind restore()", DryLoaf.STATE, () -> x.right(0, 0));
        Due.write(x, "p01,p01;5");
        x.court();
        Due.refused(x, "right(0, 0) in another court", DryLoaf.STATE, () -> x.right(0, 0));
        Due.due("another object", Due.court("p01,p01;5").right(0, 1), 2);
    }

    private static void driestOfOneAndNine() {
        Due.promise(14, "how DRY THE LOAF had best be (1 to 9)");
        // 0 with butter: 2 and none at 8, 3 and none at 9; 1: 8 and 5 at 1, 9 and 6 at 2
        DryLoaf x = Due.court("p01,p91;5");
        x.butter(0, 4);
        Due.driest(x, 0, 9, 13, 20);
        Due.driest(x, 1, 1, 13, 20);
        // a thief of little fear: none and none at 4, none and 1 at 5, 1 and 2 at 6
        Due.driest(Due.court("t11,p11;1"), 0, 5, 11, 20);
        // of 9 and 1 the second is judged only if he chokes and the first would not: 3 and none at 5
        Due.driest(Due.court("p09,p01;9"), 1, 5, 93, 100);
    }

    private static void driestOfLikeOnes() {
        Due.promise(14, "of like ones the least");
        // any loaf tells as little
        Due.driest(Due.court("h51,h51;9"), 0, 1, 1, 2);
        Due.driest(Due.court("w51,h52;9"), 0, 1, 2, 3);
        // from 5 on 3 tenths more: 3 and none, 4 and 1 ..
        Due.driest(Due.court("p01,p01;9"), 0, 5, 13, 20);
        Due.driest(Due.court("p01,p01;1"), 1, 5, 13, 20);
    }

    private static void driestOfOne() {
        Due.promise(14, "1 how likely above, 2 below, in lowest terms");
        DryLoaf x = Due.court("p01,p01,p01;5");
        x.eat(2, true);
        for (int i = 0; i < 3; i++) {
            Due.driest(x, i, 1, 1, 1);
        }
    }

    private static void driestWithButter() {
        Due.promise(14, "if just he EATS");
        DryLoaf x = Due.court("p01,p01;5");
        for (int butter = 0; butter <= 4; butter++) {
            x.butter(0, butter);
            Due.driest(x, 0, 5 + butter, 13, 20);
        }
        // 2 at 9, 1 at 9, none
        x.butter(0, 5);
        Due.driest(x, 0, 9, 3, 5);
        x.butter(0, 6);
        Due.driest(x, 0, 9, 11, 20);
        x.butter(0, 7);
        Due.driest(x, 0, 1, 1, 2);
        Due.driest(x, 1, 5, 13, 20);
    }

    private static void driestUnknownAndOutside() {
        Due.promise(14, "UNKNOWN; OUTSIDE");
        DryLoaf x = Due.court("p01,p01;5");
        for (int nobody : Due.nobodyOf(2)) {
            Due.refused(x, "driest(" + nobody + ", 0)", DryLoaf.UNKNOWN, () -> x.driest(nobody, 0));
            Due.refused(x, "driest(" + nobody + ", 3)", DryLoaf.UNKNOWN, () -> x.driest(nobody, 3));
        }
        for (int what : Due.outsideOf(0, 2)) {
            Due.refused(x, "driest(1, " + what + ")", DryLoaf.OUTSIDE, () -> x.driest(1, what));
        }
        Due.due("without a court", new DryLoaf().driest(0, 3), DryLoaf.UNKNOWN);
    }

    private static void driestChangesNothing() {
        Due.promise(14, "how DRY THE LOAF had best be");
        DryLoaf x = Due.court("p01,p91;5");
        x.butter(0, 4);
        long before = x.digest();
        x.driest(0, 0);
        x.driest(1, 1);
        Due.due("digest()", x.digest(), before);
        Due.due("count(1)", x.count(1), 5);
        Due.due("count(8)", x.count(8), 0);
    }
}
