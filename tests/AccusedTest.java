/** Promises 6 to 12: about, as, butter, loaf, eat, belief, judged. */
public final class AccusedTest {
    public static void main(String[] args) {
        about();
        tenths();
        need();
        as();
        butter();
        loaf();
        eat();
        eatRefusals();
        belief();
        judged();
        Due.end("AccusedTest");
    }

    private static void about() {
        DryLoaf x = Due.court("p45,h23,w01,t99;6");
        int[][] want = {{0, 4, 5, 0, 8, 5, 0, 0, 8}, {1, 2, 3, 0, 3, 3, 0, 0, 3}, {2, 0, 1, 0, 4, 4, 0, 0, 4},
            {4, 9, 9, 0, 1, 10, 0, 0, -1}};
        for (int i = 0; i < 4; i++) {
            for (int what = 0; what <= 8; what++) {
                Due.due("about(" + i + ", " + what + ")", x.about(i, what), want[i][what]);
            }
        }
        x.eat(1, true);
        x.eat(1, false);
        x.eat(0, false);
        Due.due("1 ate", x.about(1, 6), 2);
        Due.due("1 choked", x.about(1, 7), 1);
        Due.due("0 ate", x.about(0, 6), 1);
        Due.due("0 choked", x.about(0, 7), 0);
        Due.due("about(4, 0)", x.about(4, 0), DryLoaf.UNKNOWN);
        Due.due("about(-1, 0)", x.about(-1, 0), DryLoaf.UNKNOWN);
        Due.due("about(0, 9)", x.about(0, 9), DryLoaf.OUTSIDE);
        Due.due("about(0, -1)", x.about(0, -1), DryLoaf.OUTSIDE);
        Due.due("UNKNOWN first", x.about(4, 9), DryLoaf.UNKNOWN);
        Due.due("about(largest, least)", x.about(Integer.MAX_VALUE, Integer.MIN_VALUE), DryLoaf.UNKNOWN);
    }

    private static void tenths() {
        both(Due.court("p41,p41;5"), 7, 4);
        both(Due.court("h41,p41;5"), 4, 4);
        both(Due.court("w41,p41;5"), 7, 7);
        both(Due.court("r51,p41;5"), 5, 2);
        both(Due.court("r11,p41;5"), 3, 0);
        both(Due.court("t41,p41;5"), 0, 4);
        both(Due.court("t41,p41;9"), 4, 8);
        both(Due.court("p01,p41;1"), 0, 0);
        both(Due.court("p91,p41;9"), 10, 10);
        both(Due.court("p61,p41;6"), 10, 7);
        DryLoaf x = Due.court("p41,w91;9");
        x.butter(0, 3);
        both(x, 8, 5);
        x.butter(0, 9);
        both(x, 2, 0);
        x.loaf(3);
        both(x, 0, 0);
        // the surplus of dread is spent ahead of the bound of 10
        x.loaf(9);
        x.butter(1, 5);
        Due.due("16 less 5", x.about(1, 4), 10);
        x.butter(1, 7);
        Due.due("16 less 7", x.about(1, 4), 9);
    }

    private static void both(DryLoaf x, int did, int not) {
        Due.due("tenths of kind " + x.about(0, 0) + ", if he did", x.about(0, 4), did);
        Due.due("tenths of kind " + x.about(0, 0) + ", if not", x.about(0, 5), not);
    }

    private static void need() {
        int[][] want = {{0, 1}, {3, 5}, {8, -1}, {2, 6}};
        String[] courts = {"p01,p11;2", "p01,w21;5", "h41,r91;9", "h21,t61;5"};
        for (int i = 0; i < courts.length; i++) {
            DryLoaf x = Due.court(courts[i]);
            Due.due("need of 0 in " + courts[i], x.about(0, 8), want[i][0]);
            Due.due("need of 1 in " + courts[i], x.about(1, 8), want[i][1]);
            x.butter(0, 9);
            Due.due("need does not hang on butter: " + courts[i], x.about(0, 8), want[i][0]);
        }
        DryLoaf x = Due.court("p21,h51;9");
        Due.due("9 is just enough", x.about(0, 8), 9);
        x.loaf(1);
        Due.due("need on a moist loaf", x.about(0, 8), 1);
        Due.due("no need", Due.court("p01,h11;1").about(1, 8), 0);
    }

    private static void as() {
        String[] letters = {"p", "h", "w", "r", "t"};
        String[] such = {"10000", "11000", "10100", "10010", "11001"};
        for (int kind = 0; kind < 5; kind++) {
            DryLoaf x = Due.court("p11," + letters[kind] + "11;5");
            Due.due("kind of " + letters[kind], x.about(1, 0), kind);
            for (int other = 0; other < 5; other++) {
                int want = such[kind].charAt(other) == '1' ? 1 : -1;
                Due.due(letters[kind] + ": as(1, " + other + ")", x.as(1, other), want);
            }
        }
        DryLoaf x = Due.court("p11,t11;5");
        Due.due("as(0, 0)", x.as(0, 0), 0);
        Due.due("as(1, 5)", x.as(1, 5), DryLoaf.OUTSIDE);
        Due.due("as(1, -1)", x.as(1, -1), DryLoaf.OUTSIDE);
        Due.due("as(2, 0)", x.as(2, 0), DryLoaf.UNKNOWN);
        Due.due("as(-1, 0)", x.as(-1, 0), DryLoaf.UNKNOWN);
        Due.due("UNKNOWN first", x.as(2, 5), DryLoaf.UNKNOWN);
    }

    private static void butter() {
        DryLoaf x = Due.court("p11,t11;5");
        Due.due("butter(1, 9)", x.butter(1, 9), 0);
        Due.due("butter(1, 4)", x.butter(1, 4), 9);
        Due.due("butter(0, 2)", x.butter(0, 2), 0);
        Due.due("butter(1, 10)", x.butter(1, 10), DryLoaf.OUTSIDE);
        Due.due("butter(1, -1)", x.butter(1, -1), DryLoaf.OUTSIDE);
        Due.due("butter(2, 1)", x.butter(2, 1), DryLoaf.UNKNOWN);
        Due.due("UNKNOWN first", x.butter(2, 10), DryLoaf.UNKNOWN);
        Due.due("about(1, 3)", x.about(1, 3), 4);
        Due.due("count(4)", x.count(4), 6);
        Due.due("butter(1, 0)", x.butter(1, 0), 4);
    }

    private static void loaf() {
        DryLoaf x = new DryLoaf();
        Due.due("OUTSIDE ahead of STATE", x.loaf(0), DryLoaf.OUTSIDE);
        Due.due("no court", x.loaf(5), DryLoaf.STATE);
        x = Due.court("p11,t11;5");
        Due.due("loaf(9)", x.loaf(9), 5);
        Due.due("loaf(1)", x.loaf(1), 9);
        Due.due("loaf(10)", x.loaf(10), DryLoaf.OUTSIDE);
        Due.due("loaf(0)", x.loaf(0), DryLoaf.OUTSIDE);
        Due.due("loaf(3)", x.loaf(3), 1);
        Due.due("count(1)", x.count(1), 3);
    }

    private static void eat() {
        // 5, 3, 2 times 8, 5, 5 is 40, 15, 10, that is 8, 3, 2
        DryLoaf x = Due.court("p45,t43,w12;6");
        Due.due("eat(0, true)", x.eat(0, true), 0);
        Due.belief(x, 0, 8, 13);
        Due.belief(x, 1, 3, 13);
        Due.belief(x, 2, 2, 13);
        // 8, 3, 2 times 5, 9, 5 is 40, 27, 10
        Due.due("eat(1, false)", x.eat(1, false), 0);
        Due.belief(x, 1, 27, 77);
        // a weeper shows nothing
        Due.due("eat(2, true)", x.eat(2, true), 0);
        Due.belief(x, 1, 27, 77);
        // butter of now: 40, 27, 10 times (10 less 1), (10 less 0), (10 less 0)
        x.butter(0, 7);
        Due.due("eat(0, false)", x.eat(0, false), 0);
        Due.belief(x, 0, 36, 73);
        // the loaf of now: 36, 27, 10 times 3 (dry 9, butter 8), 0, 0
        x.loaf(9);
        x.butter(0, 8);
        Due.due("eat(0, true)", x.eat(0, true), 0);
        Due.belief(x, 0, 1, 1);
        Due.belief(x, 1, 0, 1);
        Due.due("count(2)", x.count(2), 5);
        Due.due("count(3)", x.count(3), 3);
    }

    private static void eatRefusals() {
        DryLoaf x = Due.court("h01,p91;5");
        Due.due("he cannot choke", x.eat(0, true), DryLoaf.STATE);
        Due.due("nobody", x.eat(2, true), DryLoaf.UNKNOWN);
        Due.due("nobody", x.eat(-1, false), DryLoaf.UNKNOWN);
        Due.due("refusals change nothing", x.count(2), 0);
        Due.belief(x, 0, 1, 2);
        for (int i = 0; i < 6; i++) {
            Due.due("eat " + i, x.eat(i % 2, i % 2 == 1), i == 0 ? 0 : 1);
        }
        Due.due("the seventh", x.eat(0, false), DryLoaf.FULL);
        Due.due("STATE ahead of FULL", x.eat(0, true), DryLoaf.STATE);
        Due.due("UNKNOWN ahead of FULL", x.eat(2, true), DryLoaf.UNKNOWN);
        Due.due("count(2)", x.count(2), 6);
        Due.due("FULL changes no weight", x.belief(0, 1), 1729);
        Due.write(x, "h01,p91;5");
        x.court();
        Due.due("another court eats again", x.eat(0, false), 0);
    }

    private static void belief() {
        DryLoaf x = Due.court("p02,p04,p06;5");
        Due.belief(x, 0, 1, 6);
        Due.belief(x, 1, 1, 3);
        Due.belief(x, 2, 1, 2);
        Due.due("belief(0, 2)", x.belief(0, 2), DryLoaf.OUTSIDE);
        Due.due("belief(0, -1)", x.belief(0, -1), DryLoaf.OUTSIDE);
        Due.due("belief(3, 0)", x.belief(3, 0), DryLoaf.UNKNOWN);
        Due.due("UNKNOWN first", x.belief(-1, 2), DryLoaf.UNKNOWN);
        x.eat(0, true);
        Due.belief(x, 0, 1, 1);
        Due.belief(x, 2, 0, 1);
        // each pair of meals makes the odds 35 to 20: thrice that is 9 times 343 to 7 times 64
        DryLoaf y = Due.court("p49,p97;3");
        for (int i = 0; i < 6; i++) {
            y.eat(i % 2, true);
        }
        Due.belief(y, 0, 441, 505);
        Due.belief(y, 1, 64, 505);
    }

    private static void judged() {
        Due.due("the heaviest", Due.court("p01,p07,p03;5").judged(), 1);
        Due.due("of like ones the least", Due.court("p03,p07,p01,p07;5").judged(), 1);
        Due.due("all alike", Due.court("p05,p05,p05,p05;5").judged(), 0);
        DryLoaf x = Due.court("p22,p23;5");
        Due.due("judged() at first", x.judged(), 1);
        Due.due("eat(0, true)", x.eat(0, true), 0);
        Due.due("judged() then", x.judged(), 0);
        Due.due("no court", new DryLoaf().judged(), DryLoaf.STATE);
    }
}
