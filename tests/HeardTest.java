/** Promises 15 to 18: hear, forget, buttered, sessions. */
public final class HeardTest {
    public static void main(String[] args) {
        hear();
        forget();
        buttered();
        sessions();
        sessionsRefusals();
        Due.end("HeardTest");
    }

    private static void hear() {
        DryLoaf x = Due.court("p41,r51;5");
        for (int i = 1; i <= 6; i++) {
            Due.due("hear " + i, x.hear(i % 2, i % 3 == 0, false), i);
        }
        Due.due("the seventh", x.hear(0, true, true), DryLoaf.FULL);
        Due.due("UNKNOWN ahead of FULL", x.hear(2, true, true), DryLoaf.UNKNOWN);
        Due.due("hear(-1, ..)", x.hear(-1, true, true), DryLoaf.UNKNOWN);
        Due.due("count(5)", x.count(5), 6);
        Due.due("what is refused is not heard", x.buttered(0), 1023);
        Due.due("hearing is no eating", x.count(2), 0);
        DryLoaf y = Due.court("h01,h01;1");
        Due.due("what cannot be is heard, too", y.hear(0, true, true), 1);
        Due.due("and no butter fits it", y.buttered(0), 0);
    }

    private static void forget() {
        DryLoaf x = Due.court("p41,r51;5");
        Due.due("forget() of none", x.forget(), 0);
        x.hear(0, false, true);
        x.hear(1, false, true);
        Due.due("forget() of 2", x.forget(), 2);
        Due.due("count(5)", x.count(5), 0);
        Due.due("buttered(0)", x.buttered(0), 1023);
        Due.due("buttered(1)", x.buttered(1), 1023);
        Due.due("hear() then", x.hear(0, false, true), 1);
        Due.due("buttered(0) then", x.buttered(0), 15);
        Due.due("forget() without a court", new DryLoaf().forget(), 0);
    }

    private static void buttered() {
        DryLoaf x = Due.court("p41,r51,w91;5");
        Due.due("nothing is heard", x.buttered(0), 1023);
        x.hear(0, false, true);
        Due.due("4 less butter is above 0", x.buttered(0), 15);
        x.hear(0, true, false);
        Due.due("7 less butter is below 10", x.buttered(0), 15);
        x.loaf(9);
        Due.due("heard on the loaf of then", x.buttered(0), 15);
        x.hear(0, true, false);
        Due.due("11 less butter is below 10", x.buttered(0), 12);
        x.butter(0, 7);
        Due.due("the butter of now does not matter", x.buttered(0), 12);
        x.hear(1, true, true);
        Due.due("9 less butter is above 0", x.buttered(1), 511);
        Due.due("of each his own", x.buttered(2), 1023);
        x.hear(2, false, false);
        Due.due("16 less butter is below 10", x.buttered(2), 896);
        x.loaf(1);
        x.hear(0, false, true);
        Due.due("nothing is left", x.buttered(0), 0);
        Due.due("buttered(3)", x.buttered(3), DryLoaf.UNKNOWN);
        Due.due("buttered(-1)", x.buttered(-1), DryLoaf.UNKNOWN);
    }

    private static void sessions() {
        // from seed 0 the draws eat 0, 1, 0 of three, and are 8, 7, 7 of ten
        DryLoaf x = Due.court("p51,h81,w41;6");
        told(x, 0, 3, 1);
        told(x, 1, 1, 0);
        told(x, 2, 1, 1);
        Due.due("one meal", x.sessions(0, 1, 0, 0), 1);
        Due.due("the seed behind one meal", x.sessions(0, 1, 0, 2), 1406932606);
        // 8 is not below 8
        DryLoaf y = Due.court("p41,h71,w41;6");
        told(y, 0, 2, 1);
        y.butter(1, 1);
        told(y, 0, 1, 0);
        y.loaf(7);
        told(y, 0, 3, 1);
        Due.due("nobody ate", y.count(2), 0);
        // of four 0, 0, 2 eat
        told(Due.court("p41,h91,h71,h91;6"), 1, 1, 1);
        Due.due("60 meals, all choke", Due.court("p91,h91;9").sessions(0, 60, 2147483647, 0), 60);
    }

    private static void told(DryLoaf x, int doer, int choke, int wronged) {
        String call = "sessions(" + doer + ", 3, 0, ";
        Due.due(call + "0)", x.sessions(doer, 3, 0, 0), choke);
        Due.due(call + "1)", x.sessions(doer, 3, 0, 1), wronged);
        Due.due(call + "2)", x.sessions(doer, 3, 0, 2), 1109335178);
    }

    private static void sessionsRefusals() {
        DryLoaf x = Due.court("p51,h81,w41;6");
        Due.due("doer 3", x.sessions(3, 1, 0, 0), DryLoaf.UNKNOWN);
        Due.due("doer -1", x.sessions(-1, 1, 0, 0), DryLoaf.UNKNOWN);
        Due.due("0 times", x.sessions(0, 0, 0, 0), DryLoaf.OUTSIDE);
        Due.due("61 times", x.sessions(0, 61, 0, 0), DryLoaf.OUTSIDE);
        Due.due("seed -1", x.sessions(0, 1, -1, 0), DryLoaf.OUTSIDE);
        Due.due("seed least", x.sessions(0, 1, Integer.MIN_VALUE, 0), DryLoaf.OUTSIDE);
        Due.due("what 3", x.sessions(0, 1, 0, 3), DryLoaf.OUTSIDE);
        Due.due("what -1", x.sessions(0, 1, 0, -1), DryLoaf.OUTSIDE);
        Due.due("UNKNOWN first", x.sessions(3, 0, -1, 3), DryLoaf.UNKNOWN);
    }
}
