/** Promises 6 to 9 at their edges: each test is for one sentence of the document, which it names. */
public final class AccusedEdgesTest {
    public static void main(String[] args) {
        aboutReadsTheEdges();
        tenthsAreZeroAtLeast();
        tenthsAreTenAtMost();
        tenthsWithButter();
        personDreads();
        hardenedDreads();
        weeperDreads();
        priestDreads();
        thiefDreads();
        ateAndChoked();
        needOfZeroAndNine();
        needOfNone();
        needWhetherHeDidItOrNot();
        needIsNotWhatHeHas();
        aboutUnknown();
        aboutOutside();
        asEveryKind();
        asUnknownAndOutside();
        butterOfZeroAndNine();
        butterUnknownAndOutside();
        loafOfOneAndNine();
        loafOutside();
        loafWithoutCourt();
        Due.end("AccusedEdgesTest");
    }

    private static void aboutReadsTheEdges() {
        Due.promise(6, "0 KIND, 1 FEAR, 2 ODDS, 3 BUTTER");
        DryLoaf x = Due.court("p01,t99,r09,w91;5");
        int[][] want = {{0, 0, 1, 0}, {4, 9, 9, 0}, {3, 0, 9, 0}, {2, 9, 1, 0}};
        for (int i = 0; i < 4; i++) {
            for (int what = 0; what < 4; what++) {
                Due.due("about(" + i + ", " + what + ")", x.about(i, what), want[i][what]);
            }
        }
        Due.due("kind of h", Due.court("p01,h11;5").about(1, 0), 1);
        x.butter(3, 9);
        Due.due("about(3, 3)", x.about(3, 3), 9);
    }

    private static void tenths(String court, int butter, int did, int not) {
        DryLoaf x = Due.court(court);
        x.butter(0, butter);
        Due.due(court + " with butter " + butter + ": about(0, 4)", x.about(0, 4), did);
        Due.due(court + " with butter " + butter + ": about(0, 5)", x.about(0, 5), not);
    }

    private static void tenthsAreZeroAtLeast() {
        Due.promise(6, "TENTHS .. (0 at least");
        // -1 and -4, 0 and -3, 1 and -2
        tenths("p01,p11;1", 0, 0, 0);
        tenths("p11,p11;1", 0, 0, 0);
        tenths("p21,p11;1", 0, 1, 0);
        // 2 and -1, 3 and 0, 4 and 1
        tenths("p31,p11;1", 0, 2, 0);
        tenths("p41,p11;1", 0, 3, 0);
        tenths("p51,p11;1", 0, 4, 1);
        tenths("t01,p11;1", 9, 0, 0);
    }

    private static void tenthsAreTenAtMost() {
        Due.promise(6, "TENTHS .. 10 at most)");
        // 9 and 6, 10 and 7, 11 and 8
        tenths("p51,p11;6", 0, 9, 6);
        tenths("p61,p11;6", 0, 10, 7);
        tenths("p71,p11;6", 0, 10, 8);
        // 12 and 9, 13 and 10, 14 and 11, 16 and 13
        tenths("p91,p11;5", 0, 10, 9);
        tenths("p91,p11;6", 0, 10, 10);
        tenths("p91,p11;7", 0, 10, 10);
        tenths("p91,p11;9", 0, 10, 10);
    }

    private static void tenthsWithButter() {
        Due.promise(6, "less his BUTTER, less 5 (0 at least, 10 at most)");
        // from 2 down to -7
        tenths("h21,p11;5", 1, 1, 1);
        tenths("h21,p11;5", 2, 0, 0);
        tenths("h21,p11;5", 3, 0, 0);
        tenths("h21,p11;5", 9, 0, 0);
        // from 16: butter takes what is above 10 first
        tenths("w91,p11;9", 5, 10, 10);
        tenths("w91,p11;9", 6, 10, 10);
        tenths("w91,p11;9", 7, 9, 9);
        tenths("w91,p11;9", 9, 7, 7);
    }

    private static void personDreads() {
        Due.promise(6, "A PERSON DREADS as much as FEAR, and 3 more, if he did it");
        tenths("p01,p11;5", 0, 3, 0);
        tenths("p61,p11;5", 0, 9, 6);
        tenths("p71,p11;5", 0, 10, 7);
    }

    private static void hardenedDreads() {
        Due.promise(6, "a HARDENED one as FEAR, whether he did it or not");
        tenths("h01,p11;5", 0, 0, 0);
        tenths("h01,p11;9", 0, 4, 4);
        tenths("h91,p11;5", 0, 9, 9);
        tenths("h91,p11;1", 0, 5, 5);
    }

    private static void weeperDreads() {
        Due.promise(6, "a WEEPER as FEAR and 3, whether he did it or not");
        tenths("w01,p11;5", 0, 3, 3);
        tenths("w01,p11;2", 0, 0, 0);
        tenths("w61,p11;5", 0, 9, 9);
        tenths("w91,p11;1", 0, 8, 8);
    }

    private static void priestDreads() {
        Due.promise(6, "a PRIEST as half of FEAR, rounded down, and 3 more, if he did it");
        tenths("r01,p11;5", 0, 3, 0);
        tenths("r11,p11;5", 0, 3, 0);
        tenths("r21,p11;5", 0, 4, 1);
        tenths("r31,p11;5", 0, 4, 1);
        tenths("r81,p11;5", 0, 7, 4);
        tenths("r91,p11;5", 0, 7, 4);
    }

    private static void thiefDreads() {
        Due.promise(6, "a THIEF nothing, if he did it, else as FEAR");
        tenths("t01,p11;5", 0, 0, 0);
        tenths("t91,p11;5", 0, 0, 9);
        tenths("t91,p11;6", 0, 1, 10);
        tenths("t01,p11;9", 0, 4, 4);
        tenths("t91,p11;9", 4, 0, 9);
    }

    private static void ateAndChoked() {
        Due.promise(6, "6 how often he ATE, 7 how often he CHOKED");
        DryLoaf x = Due.court("h21,h21,h21,h21;5");
        for (int i = 0; i <= 6; i++) {
            Due.due("about(3, 6)", x.about(3, 6), i);
            Due.due("about(3, 7)", x.about(3, 7), i);
            x.eat(3, true);
        }
        Due.due("refused meals are none: about(3, 6)", x.about(3, 6), 6);
        Due.due("refused meals are none: about(3, 7)", x.about(3, 7), 6);
        Due.due("another: about(0, 6)", x.about(0, 6), 0);
        DryLoaf y = Due.court("h21,h21;5");
        y.eat(0, false);
        Due.due("he ate", y.about(0, 6), 1);
        Due.due("and did not choke", y.about(0, 7), 0);
    }

    private static void need(String court, int want) {
        Due.due("need in " + court, Due.court(court).about(0, 8), want);
    }

    private static void needOfZeroAndNine() {
        Due.promise(6, "NEED: the least BUTTER by which he cannot CHOKE");
        // by -1, by 0, by 1
        need("p01,p11;1", 0);
        need("p01,p11;2", 0);
        need("p01,p11;3", 1);
        // by 8, by 9
        need("p11,p11;9", 8);
        need("p21,p11;9", 9);
        need("h51,p11;9", 9);
        need("w21,p11;9", 9);
        need("r51,p11;9", 9);
        need("t51,p11;9", 9);
    }

    private static void needOfNone() {
        Due.promise(6, "8 NEED (NONE): even 9 is not enough");
        // by 10, and by all there can be
        need("p31,p11;9", DryLoaf.NONE);
        need("h61,p11;9", DryLoaf.NONE);
        need("w31,p11;9", DryLoaf.NONE);
        need("r61,p11;9", DryLoaf.NONE);
        need("t61,p11;9", DryLoaf.NONE);
        need("w91,p11;9", DryLoaf.NONE);
        DryLoaf x = Due.court("p31,p11;9");
        x.loaf(8);
        Due.due("need, the loaf being less dry", x.about(0, 8), 9);
    }

    private static void needWhetherHeDidItOrNot() {
        Due.promise(6, "NEED .. whether he did it or not");
        // if he did it, he chokes more; the thief less
        need("p21,p11;5", 5);
        need("r21,p11;5", 4);
        need("t21,p11;5", 2);
        need("t01,p11;9", 4);
    }

    private static void needIsNotWhatHeHas() {
        Due.promise(6, "NEED: the least BUTTER");
        DryLoaf x = Due.court("p21,p31;9");
        x.butter(0, 9);
        x.butter(1, 9);
        Due.due("about(0, 8)", x.about(0, 8), 9);
        Due.due("about(1, 8)", x.about(1, 8), DryLoaf.NONE);
    }

    private static void aboutUnknown() {
        Due.promise(6, "UNKNOWN; OUTSIDE");
        String[] courts = {"p01,h01;5", "p01,h01,w01;5", "p01,h01,w01,r01;5"};
        for (int i = 0; i < 3; i++) {
            DryLoaf x = Due.court(courts[i]);
            for (int nobody : Due.nobodyOf(i + 2)) {
                Due.refused(x, "about(" + nobody + ", 0)", DryLoaf.UNKNOWN, () -> x.about(nobody, 0));
                Due.refused(x, "about(" + nobody + ", 9)", DryLoaf.UNKNOWN, () -> x.about(nobody, 9));
            }
            Due.due("the last one", x.about(i + 1, 2), 1);
        }
        Due.due("without a court", new DryLoaf().about(0, 9), DryLoaf.UNKNOWN);
    }

    private static void aboutOutside() {
        Due.promise(6, "OUTSIDE");
        DryLoaf x = Due.court("p01,h01;5");
        for (int what : Due.outsideOf(0, 8)) {
            Due.refused(x, "about(0, " + what + ")", DryLoaf.OUTSIDE, () -> x.about(0, what));
        }
    }

    private static void asEveryKind() {
        Due.promise(7, "One taken as a KIND: his number; NONE: he is none such");
        DryLoaf x = Due.court("p11,h11,w11,r11;5");
        such(x, 0, true, false, false, false, false);
        such(x, 1, true, true, false, false, false);
        such(x, 2, true, false, true, false, false);
        such(x, 3, true, false, false, true, false);
        such(Due.court("t11,p11;5"), 0, true, true, false, false, true);
        such(Due.court("p11,p11,p11,t11;5"), 3, true, true, false, false, true);
    }

    private static void such(DryLoaf x, int accused, boolean... is) {
        for (int kind = 0; kind < is.length; kind++) {
            Due.due("as(" + accused + ", " + kind + ")", x.as(accused, kind), is[kind] ? accused : DryLoaf.NONE);
        }
    }

    private static void asUnknownAndOutside() {
        Due.promise(7, "UNKNOWN; OUTSIDE");
        DryLoaf x = Due.court("p11,h11;5");
        for (int nobody : Due.nobodyOf(2)) {
            Due.refused(x, "as(" + nobody + ", 0)", DryLoaf.UNKNOWN, () -> x.as(nobody, 0));
            Due.refused(x, "as(" + nobody + ", 5)", DryLoaf.UNKNOWN, () -> x.as(nobody, 5));
        }
        for (int kind : Due.outsideOf(0, 4)) {
            Due.refused(x, "as(1, " + kind + ")", DryLoaf.OUTSIDE, () -> x.as(1, kind));
        }
        Due.due("without a court", new DryLoaf().as(0, 5), DryLoaf.UNKNOWN);
    }

    private static void butterOfZeroAndNine() {
        Due.promise(8, "BUTTER becomes so much: how much it was");
        DryLoaf x = Due.court("p11,h11,w11,r11;5");
        for (int i = 0; i < 4; i++) {
            Due.due("at first", x.butter(i, 0), 0);
            Due.due("from 0 to 9", x.butter(i, 9), 0);
            Due.due("from 9 to 9", x.butter(i, 9), 9);
        }
        Due.due("from 9 to 0", x.butter(1, 0), 9);
        Due.due("only his: about(0, 3)", x.about(0, 3), 9);
        Due.due("only his: about(1, 3)", x.about(1, 3), 0);
        Due.due("only his: about(2, 3)", x.about(2, 3), 9);
    }

    private static void butterUnknownAndOutside() {
        Due.promise(8, "UNKNOWN; OUTSIDE: v (0 to 9)");
        DryLoaf x = Due.court("p11,h11,w11;5");
        x.butter(0, 4);
        for (int nobody : Due.nobodyOf(3)) {
            Due.refused(x, "butter(" + nobody + ", 1)", DryLoaf.UNKNOWN, () -> x.butter(nobody, 1));
            Due.refused(x, "butter(" + nobody + ", 10)", DryLoaf.UNKNOWN, () -> x.butter(nobody, 10));
        }
        for (int v : Due.outsideOf(0, 9)) {
            Due.refused(x, "butter(0, " + v + ")", DryLoaf.OUTSIDE, () -> x.butter(0, v));
        }
        Due.due("without a court", new DryLoaf().butter(0, 10), DryLoaf.UNKNOWN);
    }

    private static void loafOfOneAndNine() {
        Due.promise(9, "THE LOAF becomes so DRY: how DRY it was");
        DryLoaf x = Due.court("h31,h91;9");
        Due.due("from 9 to 1", x.loaf(1), 9);
        Due.due("tenths then", x.about(1, 4), 5);
        Due.due("from 1 to 9", x.loaf(9), 1);
        Due.due("tenths then", x.about(0, 4), 7);
        Due.due("from 9 to 9", x.loaf(9), 9);
        Due.due("count(1)", x.count(1), 9);
    }

    private static void loafOutside() {
        Due.promise(9, "OUTSIDE: v (1 to 9)");
        DryLoaf x = Due.court("h31,h91;5");
        for (int v : Due.outsideOf(1, 9)) {
            Due.refused(x, "loaf(" + v + ")", DryLoaf.OUTSIDE, () -> x.loaf(v));
        }
    }

    private static void loafWithoutCourt() {
        Due.promise(9, "OUTSIDE: v (1 to 9); STATE: no COURT");
        DryLoaf x = new DryLoaf();
        Due.refused(x, "loaf(1)", DryLoaf.STATE, () -> x.loaf(1));
        Due.refused(x, "loaf(9)", DryLoaf.STATE, () -> x.loaf(9));
        Due.refused(x, "loaf(0)", DryLoaf.OUTSIDE, () -> x.loaf(0));
        Due.refused(x, "loaf(10)", DryLoaf.OUTSIDE, () -> x.loaf(10));
        Due.due("count(1)", x.count(1), 0);
    }
}
