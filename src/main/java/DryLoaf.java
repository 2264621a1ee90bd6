/**
 * Sworn on a dry loaf: a court of accused who eat dry bread, and what is believed of them then.
 * The words in capitals are the terms of the document.
 */
public final class DryLoaf {
    public static final int NONE = -1, UNKNOWN = -101, OUTSIDE = -102, STATE = -103, FULL = -104;

    private static final int LEAST_ACCUSED = 2;
    private static final int MOST_ACCUSED = 4;
    private static final int MOST_LETTERS = 18;
    private static final int MOST_BUTTER = 9;
    private static final int MOST_DRY = 9;
    private static final int MOST_EATEN = 6;
    private static final int MOST_HEARD = 6;
    private static final int MOST_LOAVES = 3;
    private static final int MOST_RIGHTS = 20;
    private static final int MOST_TIMES = 60;
    private static final int MOST_ABOUT = 8;
    private static final int MOST_COUNT = 8;

    /** What about() is asked for by sessions(), too. */
    private static final int TENTHS_IF_DID = 4;
    private static final int TENTHS_IF_NOT = 5;

    private static final int PERSON = 0;
    private static final int HARDENED = 1;
    private static final int WEEPER = 2;
    private static final int PRIEST = 3;
    private static final int THIEF = 4;
    /** The letter of each KIND stands at the KIND's number. */
    private static final String KIND_LETTERS = "phwrt";

    /** What the doer dreads beyond his FEAR, and a WEEPER always. */
    private static final int GUILT = 3;
    /** All tenths: as likely as can be. */
    private static final int SURE = 10;
    /** A bit for each BUTTER from 0 to 9: nothing HEARD rules any out. */
    private static final int ANY_BUTTER = 1023;
    /** Euclid's way needs fewer steps than this for any two longs. */
    private static final int EUCLID_STEPS = 100;

    private final Page page;
    private final Person[] people;
    private final Standing now;
    private final Standing kept;
    /** Row n holds the weights while n loaves are still to be eaten; row 0 is also the scratch of a single meal. */
    private final long[][] rows;
    private int many;
    private int courtsRead;
    /** Which reading of a COURT the IMAGE belongs to: 0 while none was kept. */
    private int keptCourt;
    private int rightsDone;

    public DryLoaf() {
        page = new Page();
        people = new Person[MOST_ACCUSED];
        now = new Standing();
        kept = new Standing();
        rows = new long[MOST_LOAVES + 1][MOST_ACCUSED];
    }

    // ---- the court

    public int letter(int code) {
        if (code < 32 || code > 126) {
            return OUTSIDE;
        }
        return page.write(code) ? page.size : FULL;
    }

    public int blank() {
        int had = page.size;
        page.size = 0;
        return had;
    }

    public int fault() {
        return page.firstFault();
    }

    public int court() {
        if (!page.isWhole()) {
            return STATE;
        }
        many = page.accusedCount();
        now.clear(page.digitAt(page.size - 1));
        for (int i = 0; i < many; i++) {
            Person one = page.readPerson(i);
            people[i] = one;
            now.weights[i] = one.odds;
        }
        page.size = 0;
        courtsRead++;
        return many;
    }

    // ---- the accused

    public int about(int accused, int what) {
        Person one = personAt(accused);
        if (one == null) {
            return UNKNOWN;
        }
        switch (what) {
            case 0: return one.kind();
            case 1: return one.fear;
            case 2: return one.odds;
            case 3: return now.butter[accused];
            case TENTHS_IF_DID: return one.tenths(true, now.dry, now.butter[accused]);
            case TENTHS_IF_NOT: return one.tenths(false, now.dry, now.butter[accused]);
            case 6: return now.ate[accused];
            case 7: return now.choked[accused];
            case 8: return one.need(now.dry);
            default: return OUTSIDE;
        }
    }

    public int as(int accused, int kind) {
        Person one = personAt(accused);
        if (one == null) {
            return UNKNOWN;
        }
        if (kind < PERSON || kind > THIEF) {
            return OUTSIDE;
        }
        return isSuch(one, kind) ? accused : NONE;
    }

    public int butter(int accused, int v) {
        if (personAt(accused) == null) {
            return UNKNOWN;
        }
        if (v < 0 || v > MOST_BUTTER) {
            return OUTSIDE;
        }
        int was = now.butter[accused];
        now.butter[accused] = v;
        return was;
    }

    public int loaf(int v) {
        if (v < 1 || v > MOST_DRY) {
            return OUTSIDE;
        }
        if (many == 0) {
            return STATE;
        }
        int was = now.dry;
        now.dry = v;
        return was;
    }

    public int eat(int accused, boolean chokes) {
        if (personAt(accused) == null) {
            return UNKNOWN;
        }
        long[] then = rows[0];
        weigh(now.weights, accused, chokes, now.dry, then);
        long divisor = commonDivisor(then);
        if (divisor <= 0) {
            return STATE;
        }
        if (sumOf(now.ate) >= MOST_EATEN) {
            return FULL;
        }
        for (int i = 0; i < MOST_ACCUSED; i++) {
            now.weights[i] = then[i] / divisor;
        }
        now.ate[accused]++;
        if (chokes) {
            now.choked[accused]++;
        }
        return heaviest(now.weights);
    }

    public long belief(int accused, int what) {
        if (personAt(accused) == null) {
            return UNKNOWN;
        }
        if (what < 0 || what > 1) {
            return OUTSIDE;
        }
        return inLowestTerms(now.weights[accused], weightOfAll(), what);
    }

    public int judged() {
        return many == 0 ? STATE : heaviest(now.weights);
    }

    // ---- what would be

    public long right(int loaves, int what) {
        if (loaves < 0 || loaves > MOST_LOAVES || what < 0 || what > 2) {
            return OUTSIDE;
        }
        if (many == 0 || rightsDone >= MOST_RIGHTS) {
            return STATE;
        }
        rightsDone++;
        System.arraycopy(now.weights, 0, rows[loaves], 0, MOST_ACCUSED);
        if (what == 2) {
            return bestEater(loaves);
        }
        long below = weightOfAll();
        for (int i = 0; i < loaves; i++) {
            below *= SURE;
        }
        return inLowestTerms(rightAtBest(loaves), below, what);
    }

    public long driest(int accused, int what) {
        if (personAt(accused) == null) {
            return UNKNOWN;
        }
        if (what < 0 || what > 2) {
            return OUTSIDE;
        }
        System.arraycopy(now.weights, 0, rows[1], 0, MOST_ACCUSED);
        int bestDry = 0;
        long best = -1;
        for (int dry = 1; dry <= MOST_DRY; dry++) {
            long parts = rightIfEats(accused, 1, dry);
            if (parts > best) {
                best = parts;
                bestDry = dry;
            }
        }
        return what == 0 ? bestDry : inLowestTerms(best, SURE * weightOfAll(), what - 1);
    }

    // ---- what is heard

    public int hear(int accused, boolean did, boolean choked) {
        Person one = personAt(accused);
        if (one == null) {
            return UNKNOWN;
        }
        if (now.heard >= MOST_HEARD) {
            return FULL;
        }
        now.butterBits[accused] &= one.butterBits(did, choked, now.dry);
        now.heard++;
        return now.heard;
    }

    public int forget() {
        int was = now.heard;
        now.unhear();
        return was;
    }

    public int buttered(int accused) {
        return personAt(accused) == null ? UNKNOWN : now.butterBits[accused];
    }

    public int sessions(int accused, int times, int seed, int what) {
        if (personAt(accused) == null) {
            return UNKNOWN;
        }
        if (times < 1 || times > MOST_TIMES || seed < 0 || what < 0 || what > 2) {
            return OUTSIDE;
        }
        long drawn = seed;
        int choking = 0;
        int wronged = 0;
        for (int i = 0; i < times; i++) {
            drawn = nextSeed(drawn);
            int eater = draw(drawn, many);
            drawn = nextSeed(drawn);
            boolean did = eater == accused;
            if (draw(drawn, SURE) < about(eater, did ? TENTHS_IF_DID : TENTHS_IF_NOT)) {
                choking++;
                wronged += did ? 0 : 1;
            }
        }
        return what == 0 ? choking : what == 1 ? wronged : (int) drawn;
    }

    // ---- what is told of all

    public int image() {
        if (many == 0) {
            return STATE;
        }
        kept.copyFrom(now);
        keptCourt = courtsRead;
        return sumOf(now.ate);
    }

    public int restore() {
        if (keptCourt == 0 || keptCourt != courtsRead) {
            return STATE;
        }
        now.copyFrom(kept);
        return sumOf(now.ate);
    }

    public int count(int what) {
        switch (what) {
            case 0: return many;
            case 1: return now.dry;
            case 2: return sumOf(now.ate);
            case 3: return sumOf(now.choked);
            case 4: return sumOf(now.butter);
            case 5: return now.heard;
            case 6: return page.size;
            case 7: return courtsRead;
            case 8: return rightsDone;
            default: return OUTSIDE;
        }
    }

    public long digest() {
        long h = 919;
        for (int i = 0; i < many; i++) {
            h = foldAccused(h, i);
        }
        if (many > 0) {
            h = fold(h, judged());
        }
        for (int place = 0; place < page.size; place++) {
            h = fold(h, page.codeAt(place));
        }
        for (int what = 0; what <= MOST_COUNT; what++) {
            h = fold(h, count(what));
        }
        return h;
    }

    // ---- helpers

    private long foldAccused(long start, int accused) {
        long h = start;
        for (int what = 0; what <= MOST_ABOUT; what++) {
            h = fold(h, about(accused, what));
        }
        for (int what = 0; what <= 1; what++) {
            h = fold(h, belief(accused, what));
        }
        for (int what = 0; what <= 2; what++) {
            h = fold(h, driest(accused, what));
        }
        return fold(h, buttered(accused));
    }

    private static long fold(long h, long number) {
        return 31 * h + number;
    }

    /** Null is nobody: every call that takes an ACCUSED refuses by this as UNKNOWN, before he is used as an index. */
    private Person personAt(int accused) {
        if (accused < 0 || accused >= many || accused >= MOST_ACCUSED) {
            return null;
        }
        return people[accused];
    }

    private static boolean isSuch(Person one, int kind) {
        switch (kind) {
            case HARDENED: return one instanceof Hardened;
            case WEEPER: return one instanceof Weeper;
            case PRIEST: return one instanceof Priest;
            case THIEF: return one instanceof Thief;
            default: return true;
        }
    }

    /** Leaves in 'to' what the weights 'from' become if this one eats; not yet divided, so parts stay comparable. */
    private void weigh(long[] from, int eater, boolean chokes, int dry, long[] to) {
        Person one = personAt(eater);
        int ifDid = one == null ? 0 : one.tenths(true, dry, now.butter[eater]);
        int ifNot = one == null ? 0 : one.tenths(false, dry, now.butter[eater]);
        for (int i = 0; i < MOST_ACCUSED; i++) {
            int tenths = i == eater ? ifDid : ifNot;
            to[i] = from[i] * (chokes ? tenths : SURE - tenths);
        }
    }

    /** Of the weights in the row of so many loaves, ten times finer by each loaf: the parts that are judged rightly. */
    private long rightAtBest(int loaves) {
        if (loaves <= 0) {
            return rows[0][heaviest(rows[0])];
        }
        long best = -1;
        for (int eater = 0; eater < many; eater++) {
            best = Math.max(best, rightIfEats(eater, loaves, now.dry));
        }
        return best;
    }

    /** As rightAtBest, but this one eats the first loaf, and it is so dry. */
    private long rightIfEats(int eater, int loaves, int dry) {
        if (loaves < 1 || loaves > MOST_LOAVES) {
            return 0;
        }
        weigh(rows[loaves], eater, true, dry, rows[loaves - 1]);
        long ifChokes = rightAtBest(loaves - 1);
        weigh(rows[loaves], eater, false, dry, rows[loaves - 1]);
        return ifChokes + rightAtBest(loaves - 1);
    }

    private int bestEater(int loaves) {
        int first = NONE;
        long best = -1;
        for (int eater = 0; eater < many && loaves > 0; eater++) {
            long parts = rightIfEats(eater, loaves, now.dry);
            if (parts > best) {
                best = parts;
                first = eater;
            }
        }
        return first;
    }

    private long weightOfAll() {
        long all = 0;
        for (int i = 0; i < MOST_ACCUSED; i++) {
            all += now.weights[i];
        }
        return all;
    }

    /** Places without an ACCUSED weigh 0, so they never win against the least of like ones. */
    private static int heaviest(long[] weights) {
        int most = 0;
        for (int i = 1; i < MOST_ACCUSED; i++) {
            if (weights[i] > weights[most]) {
                most = i;
            }
        }
        return most;
    }

    private static int sumOf(int[] numbers) {
        int sum = 0;
        for (int i = 0; i < numbers.length; i++) {
            sum += numbers[i];
        }
        return sum;
    }

    private static long inLowestTerms(long above, long below, int which) {
        long divisor = commonDivisor(above, below);
        if (divisor <= 0) {
            return 0;
        }
        return (which == 0 ? above : below) / divisor;
    }

    /** 0 if all the weights are 0. */
    private static long commonDivisor(long[] weights) {
        long divisor = 0;
        for (int i = 0; i < MOST_ACCUSED; i++) {
            divisor = commonDivisor(divisor, weights[i]);
        }
        return divisor;
    }

    private static long commonDivisor(long a, long b) {
        long larger = a;
        long smaller = b;
        for (int step = 0; step < EUCLID_STEPS && smaller != 0; step++) {
            long rest = larger % smaller;
            larger = smaller;
            smaller = rest;
        }
        return larger;
    }

    private static long nextSeed(long seed) {
        return (1103515245L * seed + 12345L) % 2147483648L;
    }

    private static int draw(long seed, int sides) {
        return sides <= 0 ? 0 : (int) (seed / 65536L % sides);
    }

    /** THE PAGE: letters that may be read as a COURT, each ACCUSED in four places (his separator is the fourth). */
    private static final class Page {
        private static final int PLACES = 4;

        final int[] codes;
        int size;

        Page() {
            codes = new int[MOST_LETTERS];
        }

        boolean write(int code) {
            if (size < 0 || size >= MOST_LETTERS) {
                return false;
            }
            codes[size] = code;
            size++;
            return true;
        }

        int codeAt(int place) {
            return place < 0 || place >= size || place >= MOST_LETTERS ? 0 : codes[place];
        }

        int digitAt(int place) {
            return codeAt(place) - '0';
        }

        int firstFault() {
            int end = NONE;
            for (int place = 0; place < size; place++) {
                boolean fits = end == NONE ? fitsAccused(place) : place == end + 1 && isDigit(place, 1);
                if (!fits) {
                    return place;
                }
                if (codeAt(place) == ';') {
                    end = place;
                }
            }
            return size;
        }

        /** Without a fault ';' stands only behind the ACCUSED, so one ahead of the last letter makes a COURT. */
        boolean isWhole() {
            return firstFault() == size && codeAt(size - 2) == ';';
        }

        int accusedCount() {
            return Math.min(MOST_ACCUSED, (size - 1) / PLACES);
        }

        Person readPerson(int accused) {
            int place = accused * PLACES;
            int fear = digitAt(place + 1);
            int odds = digitAt(place + 2);
            switch (kindAt(place)) {
                case HARDENED: return new Hardened(fear, odds);
                case WEEPER: return new Weeper(fear, odds);
                case PRIEST: return new Priest(fear, odds);
                case THIEF: return new Thief(fear, odds);
                default: return new Person(fear, odds);
            }
        }

        private boolean fitsAccused(int place) {
            switch (place % PLACES) {
                case 0: return kindAt(place) >= 0;
                case 1: return isDigit(place, 0);
                case 2: return isDigit(place, 1);
                default: return fitsBehind(place, place / PLACES + 1);
            }
        }

        private boolean fitsBehind(int place, int accused) {
            int code = codeAt(place);
            return code == ',' && accused < MOST_ACCUSED || code == ';' && accused >= LEAST_ACCUSED;
        }

        private int kindAt(int place) {
            return KIND_LETTERS.indexOf((char) codeAt(place));
        }

        private boolean isDigit(int place, int least) {
            int digit = digitAt(place);
            return digit >= least && digit <= 9;
        }
    }

    /** All that an IMAGE keeps: what changes while one COURT lasts. */
    private static final class Standing {
        final int[] butter;
        final long[] weights;
        final int[] ate;
        final int[] choked;
        /** BUTTERED of each by all that is HEARD: nothing but this and the number is ever asked of what is HEARD. */
        final int[] butterBits;
        int heard;
        int dry;

        Standing() {
            butter = new int[MOST_ACCUSED];
            weights = new long[MOST_ACCUSED];
            ate = new int[MOST_ACCUSED];
            choked = new int[MOST_ACCUSED];
            butterBits = new int[MOST_ACCUSED];
        }

        void clear(int newDry) {
            for (int i = 0; i < MOST_ACCUSED; i++) {
                butter[i] = 0;
                weights[i] = 0;
                ate[i] = 0;
                choked[i] = 0;
            }
            unhear();
            dry = newDry;
        }

        void unhear() {
            for (int i = 0; i < MOST_ACCUSED; i++) {
                butterBits[i] = ANY_BUTTER;
            }
            heard = 0;
        }

        void copyFrom(Standing other) {
            for (int i = 0; i < MOST_ACCUSED; i++) {
                butter[i] = other.butter[i];
                weights[i] = other.weights[i];
                ate[i] = other.ate[i];
                choked[i] = other.choked[i];
                butterBits[i] = other.butterBits[i];
            }
            heard = other.heard;
            dry = other.dry;
        }
    }

    /** One of the ACCUSED: what he is, which stays while the COURT lasts. */
    private static class Person {
        final int fear;
        final int odds;

        Person(int fear, int odds) {
            this.fear = fear;
            this.odds = odds;
        }

        int kind() {
            return PERSON;
        }

        int dread(boolean did) {
            return did ? fear + GUILT : fear;
        }

        final int tenths(boolean did, int dry, int spread) {
            return Math.max(0, Math.min(SURE, dread(did) + dry - spread - 5));
        }

        final int need(int dry) {
            for (int spread = 0; spread <= MOST_BUTTER; spread++) {
                if (tenths(true, dry, spread) == 0 && tenths(false, dry, spread) == 0) {
                    return spread;
                }
            }
            return NONE;
        }

        final int butterBits(boolean did, boolean choked, int dry) {
            int bits = 0;
            for (int spread = 0; spread <= MOST_BUTTER; spread++) {
                int tenths = tenths(did, dry, spread);
                if (choked ? tenths > 0 : tenths < SURE) {
                    bits |= 1 << spread;
                }
            }
            return bits;
        }
    }

    private static class Hardened extends Person {
        Hardened(int fear, int odds) {
            super(fear, odds);
        }

        @Override
        int kind() {
            return HARDENED;
        }

        @Override
        int dread(boolean did) {
            return fear;
        }
    }

    private static final class Weeper extends Person {
        Weeper(int fear, int odds) {
            super(fear, odds);
        }

        @Override
        int kind() {
            return WEEPER;
        }

        @Override
        int dread(boolean did) {
            return fear + GUILT;
        }
    }

    private static final class Priest extends Person {
        Priest(int fear, int odds) {
            super(fear, odds);
        }

        @Override
        int kind() {
            return PRIEST;
        }

        @Override
        int dread(boolean did) {
            return did ? fear / 2 + GUILT : fear / 2;
        }
    }

    private static final class Thief extends Hardened {
        Thief(int fear, int odds) {
            super(fear, odds);
        }

        @Override
        int kind() {
            return THIEF;
        }

        @Override
        int dread(boolean did) {
            return did ? 0 : fear;
        }
    }
}
