import java.math.BigInteger;

/** Promises 15 to 18 at their edges: each test is for one sentence of the document, which it names. */
public final class HeardEdgesTest {
    private static final int ANY = 1023;

    public static void main(String[] args) {
        hearSix();
        hearOfEach();
        hearWhatCannotBe();
        hearUnknown();
        hearIsNoMeal();
        forgetOfNothing();
        forgetOfSix();
        butteredOfNothingHeard();
        butteredByTenthsAboveZero();
        butteredByTenthsBelowTen();
        butteredByDread();
        butteredOnTheLoafOfThen();
        butteredByAllThatIsHeard();
        butteredOfHimAlone();
        butteredUnknown();
        sessionsOfOneAndSixty();
        sessionsOfNoneAndAll();
        sessionsBelowTenths();
        sessionsWithSeedsAtTheEdges();
        sessionsOfEachCourt();
        sessionsOutside();
        sessionsUnknown();
        sessionsChangeNothing();
        Due.end("HeardEdgesTest");
    }

    private static void hearSix() {
        Due.promise(15, "HEARD (6 at most) .. FULL");
        DryLoaf x = Due.court("h51,h51;5");
        for (int i = 1; i <= 6; i++) {
            Due.due("hear() " + i, x.hear(0, true, false), i);
            Due.due("count(5)", x.count(5), i);
        }
        Due.refused(x, "hear() 7", DryLoaf.FULL, () -> x.hear(0, true, true));
        Due.refused(x, "hear() 7 of another", DryLoaf.FULL, () -> x.hear(1, false, true));
        Due.due("buttered(0)", x.buttered(0), ANY);
        Due.due("buttered(1)", x.buttered(1), ANY);
    }

    private static void hearOfEach() {
        Due.promise(15, "It is HEARD: how much is");
        DryLoaf x = Due.court("h51,h51,h51,h51;5");
        for (int i = 0; i < 6; i++) {
            Due.due("hear() of " + i % 4, x.hear(i % 4, true, true), i + 1);
        }
        Due.refused(x, "hear() 7", DryLoaf.FULL, () -> x.hear(3, true, true));
    }

    private static void hearWhatCannotBe() {
        Due.promise(15, "It is HEARD");
        DryLoaf x = Due.court("h01,w91;5");
        Due.due("he choked by 0", x.hear(0, true, true), 1);
        Due.due("he choked, and did not", x.hear(1, true, true), 2);
        Due.due("he choked, and did not", x.hear(1, true, false), 3);
        Due.due("buttered(0)", x.buttered(0), 0);
    }

    private static void hearUnknown() {
        Due.promise(15, "UNKNOWN; FULL");
        DryLoaf x = Due.court("h51,h51;5");
        for (int nobody : Due.nobodyOf(2)) {
            Due.refused(x, "hear(" + nobody + ", true, true)", DryLoaf.UNKNOWN, () -> x.hear(nobody, true, true));
        }
        for (int i = 0; i < 6; i++) {
            x.hear(0, true, true);
        }
        for (int nobody : Due.nobodyOf(2)) {
            Due.refused(x, "hear(" + nobody + ", ..) when full", DryLoaf.UNKNOWN, () -> x.hear(nobody, true, true));
        }
        Due.due("without a court", new DryLoaf().hear(0, true, true), DryLoaf.UNKNOWN);
    }

    private static void hearIsNoMeal() {
        Due.promise(15, "It is HEARD");
        DryLoaf x = Due.court("p01,p01;5");
        x.hear(0, true, true);
        Due.belief(x, 0, 1, 2);
        Due.due("count(2)", x.count(2), 0);
        Due.due("count(3)", x.count(3), 0);
        for (int i = 0; i < 6; i++) {
            x.eat(0, false);
        }
        Due.due("six meals do not hinder it", x.hear(0, true, true), 2);
    }

    private static void forgetOfNothing() {
        Due.promise(16, "Nothing is HEARD any more: how much was");
        Due.due("without a court", new DryLoaf().forget(), 0);
        DryLoaf x = Due.court("h51,h51;5");
        Due.due("nothing", x.forget(), 0);
        x.hear(1, true, true);
        Due.due("one", x.forget(), 1);
        Due.due("nothing any more", x.forget(), 0);
    }

    private static void forgetOfSix() {
        Due.promise(16, "Nothing is HEARD any more: how much was");
        DryLoaf x = Due.court("h51,h51,h51,h51;5");
        long before = x.digest();
        for (int i = 0; i < 6; i++) {
            x.hear(i % 4, true, true);
        }
        Due.due("forget() of 6", x.forget(), 6);
        Due.due("count(5)", x.count(5), 0);
        for (int i = 0; i < 4; i++) {
            Due.due("buttered(" + i + ")", x.buttered(i), ANY);
        }
        Due.due("nothing else is gone: digest()", x.digest(), before);
        for (int i = 1; i <= 6; i++) {
            Due.due("hear() " + i + " then", x.hear(0, true, true), i);
        }
        Due.refused(x, "hear() 7 then", DryLoaf.FULL, () -> x.hear(0, true, true));
    }

    private static void butteredOfNothingHeard() {
        Due.promise(17, "BUTTERED, as bits");
        DryLoaf x = Due.court("p01,h91,w91,t01;9");
        x.butter(0, 9);
        x.eat(1, true);
        for (int i = 0; i < 4; i++) {
            Due.due("buttered(" + i + ")", x.buttered(i), ANY);
        }
    }

    private static void heard(String court, boolean did, boolean choked, int bits) {
        DryLoaf x = Due.court(court);
        x.hear(0, did, choked);
        Due.due(court + ": buttered(0) by hear(0, " + did + ", " + choked + ")", x.buttered(0), bits);
    }

    private static void butteredByTenthsAboveZero() {
        Due.promise(17, "by TENTHS above 0");
        // by 0, 1, 2, 8, 9, 10 and 13 without butter: each butter takes one
        heard("h01,p01;5", true, true, 0);
        heard("h11,p01;5", true, true, 1);
        heard("h21,p01;5", true, true, 3);
        heard("h81,p01;5", true, true, 255);
        heard("h91,p01;5", true, true, 511);
        heard("h91,p01;6", true, true, ANY);
        heard("h91,p01;9", true, true, ANY);
        heard("h01,p01;1", true, true, 0);
    }

    private static void butteredByTenthsBelowTen() {
        Due.promise(17, "below 10");
        // by 9, 10, 11 and 16 without butter
        heard("h91,p01;5", true, false, ANY);
        heard("h91,p01;6", true, false, ANY - 1);
        heard("h91,p01;7", true, false, ANY - 3);
        heard("w91,p01;9", true, false, 512 + 256 + 128);
        heard("h01,p01;1", true, false, ANY);
    }

    private static void butteredByDread() {
        Due.promise(17, "so that all that is HEARD of him could be");
        heard("p21,p01;5", true, true, 31);
        heard("p21,p01;5", false, true, 3);
        heard("w21,p01;5", false, true, 31);
        heard("r51,p01;5", true, true, 31);
        heard("r51,p01;5", false, true, 3);
        heard("t91,p01;5", true, true, 0);
        heard("t91,p01;5", false, true, 511);
        heard("t91,p01;9", true, true, 15);
        heard("t91,p01;9", false, false, ANY - 15);
        heard("p91,p01;9", true, false, ANY - 127);
        heard("p91,p01;9", false, false, ANY - 15);
    }

    private static void butteredOnTheLoafOfThen() {
        Due.promise(17, "as DRY as it is when this is HEARD");
        DryLoaf x = Due.court("h21,h21;5");
        x.hear(0, true, true);
        x.loaf(9);
        Due.due("heard at 5, asked at 9", x.buttered(0), 3);
        x.hear(1, true, true);
        x.loaf(1);
        Due.due("heard at 9, asked at 1", x.buttered(1), 63);
    }

    private static void butteredByAllThatIsHeard() {
        Due.promise(17, "so that all that is HEARD of him could be");
        // 13 less butter is below 10, 9 less butter is above 0: 4 to 8; 5 less butter is above 0: 4 alone
        DryLoaf x = Due.court("h91,h51;9");
        x.hear(0, true, false);
        Due.due("13 is below 10", x.buttered(0), 1008);
        x.loaf(5);
        x.hear(0, true, true);
        Due.due("9 is above 0", x.buttered(0), 496);
        x.loaf(1);
        x.hear(0, true, true);
        Due.due("5 is above 0", x.buttered(0), 16);
        x.hear(0, true, false);
        Due.due("what was known tells nothing", x.buttered(0), 16);
        // only 0, only 9
        DryLoaf y = Due.court("w91,h11;5");
        y.hear(1, true, true);
        Due.due("1 is above 0", y.buttered(1), 1);
        y.hear(1, true, false);
        Due.due("1 is below 10", y.buttered(1), 1);
        y.loaf(9);
        y.hear(1, true, true);
        Due.due("5 is above 0", y.buttered(1), 1);
    }

    private static void butteredOfHimAlone() {
        Due.promise(17, "all that is HEARD of him");
        DryLoaf x = Due.court("h11,h21,h31,h41;5");
        for (int i = 0; i < 4; i++) {
            x.hear(i, true, true);
        }
        for (int i = 0; i < 4; i++) {
            x.butter(i, 9);
            Due.due("buttered(" + i + ")", x.buttered(i), (2 << i) - 1);
        }
    }

    private static void butteredUnknown() {
        Due.promise(17, "UNKNOWN");
        DryLoaf x = Due.court("h11,h21,h31;5");
        for (int nobody : Due.nobodyOf(3)) {
            Due.refused(x, "buttered(" + nobody + ")", DryLoaf.UNKNOWN, () -> x.buttered(nobody));
        }
        Due.due("without a court", new DryLoaf().buttered(0), DryLoaf.UNKNOWN);
    }

    /** The SEED behind so many draws, with numbers that do not end at 64 bits. */
    private static long seedBehind(long seed, int draws) {
        BigInteger now = BigInteger.valueOf(seed);
        for (int i = 0; i < draws; i++) {
            now = now.multiply(BigInteger.valueOf(1103515245)).add(BigInteger.valueOf(12345)).mod(BigInteger.TWO.pow(31));
        }
        return now.longValueExact();
    }

    private static void sessionsOfOneAndSixty() {
        Due.promise(18, "OUTSIDE: times (1 to 60)");
        DryLoaf x = Due.court("h51,h51,h51;5");
        Due.refused(x, "0 times", DryLoaf.OUTSIDE, () -> x.sessions(0, 0, 7, 0));
        Due.due("once: the seed", x.sessions(0, 1, 7, 2), seedBehind(7, 2));
        Due.due("twice: the seed", x.sessions(0, 2, 7, 2), seedBehind(7, 4));
        Due.due("60 times: the seed", x.sessions(0, 60, 7, 2), seedBehind(7, 120));
        Due.refused(x, "61 times", DryLoaf.OUTSIDE, () -> x.sessions(0, 61, 7, 0));
        for (int times : Due.outsideOf(1, 60)) {
            Due.refused(x, times + " times", DryLoaf.OUTSIDE, () -> x.sessions(0, times, 7, 2));
        }
    }

    private static void sessionsOfNoneAndAll() {
        Due.promise(18, "0 how many CHOKE, 1 how many of these did not do it");
        DryLoaf none = Due.court("p01,p01;1");
        Due.due("nobody chokes", none.sessions(0, 60, 3, 0), 0);
        Due.due("none of nobody", none.sessions(0, 60, 3, 1), 0);
        DryLoaf all = Due.court("w91,w91,w91;9");
        int wronged = 0;
        for (int i = 0; i < 3; i++) {
            Due.due("all choke", all.sessions(i, 60, 3, 0), 60);
            wronged += all.sessions(i, 60, 3, 1);
        }
        Due.due("each of 60 is wronged but by one of three", wronged, 120);
        // the thief chokes on no loaf, if he did it
        DryLoaf thief = Due.court("t91,h01;5");
        Due.due("the thief did it", thief.sessions(0, 60, 3, 0), 0);
        Due.due("all that choke are the thief, if 1 did it", thief.sessions(1, 60, 3, 1), thief.sessions(1, 60, 3, 0));
    }

    private static void sessionsBelowTenths() {
        Due.promise(18, "he CHOKES, if a DRAW of 10 is below TENTHS");
        long drawn = seedBehind(11, 2) / 65536 % 10;
        DryLoaf x = Due.court("h01,h01;5");
        for (int dry = 1; dry <= 9; dry++) {
            x.loaf(dry);
            Due.due("of fear 0 on " + dry, x.sessions(0, 1, 11, 0), drawn < Math.max(0, dry - 5) ? 1 : 0);
        }
        DryLoaf y = Due.court("h51,h51;5");
        for (int dry = 1; dry <= 9; dry++) {
            y.loaf(dry);
            Due.due("of fear 5 on " + dry, y.sessions(0, 1, 11, 0), drawn < dry ? 1 : 0);
        }
        // 9 tenths are not all, 10 are
        Due.due("9 tenths", Due.court("h91,h91;5").sessions(0, 60, 11, 0), chokingByNine(11));
        Due.due("10 tenths", Due.court("h91,h91;6").sessions(0, 60, 11, 0), 60);
    }

    private static int chokingByNine(long seed) {
        int choking = 0;
        for (int i = 1; i <= 60; i++) {
            choking += seedBehind(seed, 2 * i) / 65536 % 10 == 9 ? 0 : 1;
        }
        return choking;
    }

    private static void sessionsWithSeedsAtTheEdges() {
        Due.promise(18, "seed (0 at least) .. its rest by 2 to the 31");
        DryLoaf x = Due.court("h51,h51;5");
        int[] seeds = {0, 1, 65535, 65536, 1073741823, 1073741824, 2147483646, 2147483647};
        for (int seed : seeds) {
            for (int times : new int[] {1, 2, 60}) {
                String call = "sessions(0, " + times + ", " + seed + ", 2)";
                Due.due(call, x.sessions(0, times, seed, 2), seedBehind(seed, 2 * times));
            }
        }
        for (int seed : new int[] {-1, -2, -65536, -2147483647, Integer.MIN_VALUE}) {
            Due.refused(x, "seed " + seed, DryLoaf.OUTSIDE, () -> x.sessions(0, 1, seed, 2));
        }
    }

    private static void sessionsOfEachCourt() {
        Due.promise(18, "so many times one by a DRAW of how many there are EATS");
        String[] courts = {"w91,w91;9", "w91,w91,w91;9", "w91,w91,w91,w91;9"};
        for (int many = 2; many <= 4; many++) {
            DryLoaf x = Due.court(courts[many - 2]);
            for (int doer = 0; doer < many; doer++) {
                int wronged = 0;
                for (int i = 0; i < 60; i++) {
                    wronged += seedBehind(99, 2 * i + 1) / 65536 % many == doer ? 0 : 1;
                }
                Due.due("of " + many + ": sessions(" + doer + ", 60, 99, 1)", x.sessions(doer, 60, 99, 1), wronged);
            }
        }
    }

    private static void sessionsOutside() {
        Due.promise(18, "OUTSIDE: times (1 to 60), seed (0 at least), what");
        DryLoaf x = Due.court("h51,h51;5");
        for (int what : Due.outsideOf(0, 2)) {
            Due.refused(x, "sessions(0, 1, 0, " + what + ")", DryLoaf.OUTSIDE, () -> x.sessions(0, 1, 0, what));
        }
    }

    private static void sessionsUnknown() {
        Due.promise(18, "UNKNOWN; OUTSIDE");
        DryLoaf x = Due.court("h51,h51;5");
        for (int nobody : Due.nobodyOf(2)) {
            Due.refused(x, "sessions(" + nobody + ", 1, 0, 0)", DryLoaf.UNKNOWN, () -> x.sessions(nobody, 1, 0, 0));
            Due.refused(x, "sessions(" + nobody + ", 0, 0, 0)", DryLoaf.UNKNOWN, () -> x.sessions(nobody, 0, 0, 0));
            Due.refused(x, "sessions(" + nobody + ", 1, -1, 3)", DryLoaf.UNKNOWN, () -> x.sessions(nobody, 1, -1, 3));
        }
        Due.due("without a court", new DryLoaf().sessions(0, 61, 0, 0), DryLoaf.UNKNOWN);
    }

    private static void sessionsChangeNothing() {
        Due.promise(18, "as they would be");
        DryLoaf x = Due.court("p51,h51;7");
        long before = x.digest();
        int first = x.sessions(1, 60, 5, 0);
        Due.due("digest()", x.digest(), before);
        Due.due("the same again", x.sessions(1, 60, 5, 0), first);
    }
}
