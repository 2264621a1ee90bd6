import java.util.Random;

/** Runs of up to 512 calls by fixed seeds, right and wrong ones mixed: the class answers as the model does. */
public final class ModelTest {
    private static final int RUNS = 150;
    private static final int CALLS = 512;
    private static final int[] ODD = {
        Integer.MIN_VALUE, -65536, -2, -1, 10, 61, 126, 127, 65536 + 112, Integer.MAX_VALUE
    };

    private final Random random;
    private final DryLoaf x = new DryLoaf();
    private final Model model = new Model();
    private final String run;
    private int calls = 0;

    private ModelTest(int seed) {
        random = new Random(seed);
        run = "run " + seed + ": ";
    }

    public static void main(String[] args) {
        for (int seed = 0; seed < RUNS; seed++) {
            new ModelTest(seed).go();
        }
        Due.end("ModelTest");
    }

    private void go() {
        while (calls < CALLS - 20) {
            if (random.nextInt(40) == 0 || calls == 0) {
                writeCourt();
            } else {
                call(random.nextInt(21));
            }
        }
        same("digest()", x.digest(), model.digest());
    }

    private void same(String call, long got, long want) {
        calls++;
        Due.due(run + calls + ": " + call, got, want);
    }

    /** Mostly a number that is as told, now and then one that is not. */
    private int pick(int least, int most) {
        int luck = random.nextInt(40);
        return luck == 0 ? ODD[random.nextInt(ODD.length)]
            : luck == 1 ? least - 1 : luck == 2 ? most + 1 : least + random.nextInt(most - least + 1);
    }

    private void writeCourt() {
        StringBuilder text = new StringBuilder();
        int many = 2 + random.nextInt(3);
        for (int i = 0; i < many; i++) {
            text.append("phwrt".charAt(random.nextInt(5))).append(random.nextInt(10)).append(1 + random.nextInt(9));
            text.append(i < many - 1 ? ',' : ';');
        }
        text.append(1 + random.nextInt(9));
        if (random.nextInt(6) == 0) {
            text.setCharAt(random.nextInt(text.length()), "phwrt,;0189x/:".charAt(random.nextInt(14)));
        }
        same("blank()", x.blank(), model.blank());
        for (char c : text.toString().toCharArray()) {
            same("letter(" + (int) c + ")", x.letter(c), model.letter(c));
        }
        same("fault() of " + text, x.fault(), model.fault());
        same("court() of " + text, x.court(), model.court());
    }

    private void call(int which) {
        int a = pick(0, 3);
        boolean p = random.nextBoolean();
        boolean q = random.nextBoolean();
        switch (which) {
            case 0 -> letter(p ? "phwrt,;0189".charAt(random.nextInt(11)) : pick(32, 126));
            case 1 -> same("blank()", x.blank(), model.blank());
            case 2 -> same("fault()", x.fault(), model.fault());
            case 3 -> same("court()", x.court(), model.court());
            case 4 -> about(a, pick(0, 8));
            case 5 -> as(a, pick(0, 4));
            case 6 -> butter(a, pick(0, 9));
            case 7 -> loaf(pick(1, 9));
            case 8 -> same("eat(" + a + ", " + p + ")", x.eat(a, p), model.eat(a, p));
            case 9 -> belief(a, pick(0, 1));
            case 10 -> same("judged()", x.judged(), model.judged());
            case 11 -> right(pick(0, 3), pick(0, 2));
            case 12 -> driest(a, pick(0, 2));
            case 13 -> same("hear(" + a + ", " + p + ", " + q + ")", x.hear(a, p, q), model.hear(a, p, q));
            case 14 -> forgetAtTimes();
            case 15 -> same("buttered(" + a + ")", x.buttered(a), model.buttered(a));
            case 16 -> sessions(a, pick(1, 60), p ? random.nextInt() : pick(0, 99), pick(0, 2));
            case 17 -> same("image()", x.image(), model.image());
            case 18 -> same("restore()", x.restore(), model.restore());
            case 19 -> count(pick(0, 8));
            default -> same("digest()", x.digest(), model.digest());
        }
    }

    private void letter(int code) {
        same("letter(" + code + ")", x.letter(code), model.letter(code));
    }

    private void about(int a, int what) {
        same("about(" + a + ", " + what + ")", x.about(a, what), model.about(a, what));
    }

    private void as(int a, int kind) {
        same("as(" + a + ", " + kind + ")", x.as(a, kind), model.as(a, kind));
    }

    private void butter(int a, int v) {
        same("butter(" + a + ", " + v + ")", x.butter(a, v), model.butter(a, v));
    }

    private void loaf(int v) {
        same("loaf(" + v + ")", x.loaf(v), model.loaf(v));
    }

    private void belief(int a, int what) {
        same("belief(" + a + ", " + what + ")", x.belief(a, what), model.belief(a, what));
    }

    private void right(int loaves, int what) {
        same("right(" + loaves + ", " + what + ")", x.right(loaves, what), model.right(loaves, what));
    }

    private void driest(int a, int what) {
        same("driest(" + a + ", " + what + ")", x.driest(a, what), model.driest(a, what));
    }

    /** Rarely, so that the limit of what is heard is reached, too. */
    private void forgetAtTimes() {
        if (random.nextInt(4) == 0) {
            same("forget()", x.forget(), model.forget());
        }
    }

    private void sessions(int a, int times, int seed, int what) {
        same("sessions(" + a + ", " + times + ", " + seed + ", " + what + ")",
            x.sessions(a, times, seed, what), model.sessions(a, times, seed, what));
    }

    private void count(int what) {
        same("count(" + what + ")", x.count(what), model.count(what));
    }
}
