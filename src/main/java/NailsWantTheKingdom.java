/** A kingdom of THINGS that are LOST by what was LOST ahead of them: ../shared/DOC.md says what each call answers. */
public final class NailsWantTheKingdom {
    private static final int NOBODY = -1;
    private static final int OTHER = -2;
    private static final int NOT_SO = -3;
    private static final int BELOW = -4;
    private static final int ROOM = -6;
    private static final int NONE = -9;

    private static final long REFUSED_LONG = 4000000000000000000L;
    private static final int GREATEST_LETTER = 255;
    private static final int GREATEST_IN_ROW = 99;
    private static final int NEVER_IN_ROW = 99;
    private static final int FAR = 60;
    private static final int NEAR = 30;
    private static final int REFUSAL_KINDS = 6;

    private final Realm now;
    private final Realm trial;
    private final Realm kept;
    private final Telling told;
    private final Numbers numbers;
    private final Lot lot;
    private final int[] refusals;
    private boolean isKept;

    public NailsWantTheKingdom() {
        now = new Realm();
        trial = new Realm();
        kept = new Realm();
        told = new Telling();
        numbers = new Numbers();
        lot = new Lot();
        refusals = new int[REFUSAL_KINDS + 1];
        isKept = false;
    }

    public int letter(int c) {
        if (c < 0) {
            return refuse(BELOW);
        }
        if (c > GREATEST_LETTER || told.isFull()) {
            return refuse(ROOM);
        }
        return told.add(c);
    }

    public int state() {
        int answer = told.faultOfForm();
        if (answer == 0) {
            trial.becomes(now);
            answer = told.comeOver(trial);
            if (answer > 0) {
                now.becomes(trial);
            }
        }
        told.forget();
        return answer;
    }

    public int thing(int thing, int what) {
        if (!now.has(thing)) {
            return refuse(NOBODY);
        }
        switch (what) {
            case 0:
                return now.kindOf(thing);
            case 1:
                return now.figureOf(thing);
            case 2:
                return now.causesOf(thing);
            case 3:
                return now.isLost(thing) ? 1 : 0;
            case 4:
                return now.isGuarded(thing) ? 1 : 0;
            case 5:
                return now.depthOf(thing);
            default:
                return refuse(OTHER);
        }
    }

    public int causes(int thing, int cause) {
        if (!now.has(thing) || !now.has(cause)) {
            return refuse(NOBODY);
        }
        if (!now.flipCause(thing, cause)) {
            return refuse(NOT_SO);
        }
        return now.causesOf(thing);
    }

    public int loses(int thing) {
        if (!now.has(thing)) {
            return refuse(NOBODY);
        }
        if (now.isLost(thing) || !now.lose(thing)) {
            return refuse(NOT_SO);
        }
        return Integer.bitCount(now.lost);
    }

    public int mends(int thing) {
        if (!now.has(thing)) {
            return refuse(NOBODY);
        }
        if (!now.isLost(thing) || !now.mend(thing)) {
            return refuse(NOT_SO);
        }
        return Integer.bitCount(now.lost);
    }

    public int guards(int thing) {
        if (!now.flipGuard(thing)) {
            return refuse(NOBODY);
        }
        return now.isGuarded(thing) ? 1 : 0;
    }

    public int turn(int thing, int kind, int figure) {
        if (!now.has(thing)) {
            return refuse(NOBODY);
        }
        if (!Realm.isKind(kind)) {
            return refuse(OTHER);
        }
        int bad = outside(figure, 0, Realm.GREATEST_FIGURE);
        if (bad != 0) {
            return refuse(bad);
        }
        int had = 10 * now.kindOf(thing) + now.figureOf(thing);
        now.setKind(thing, kind);
        now.setFigure(thing, figure);
        return had;
    }

    public int days(int n) {
        int bad = outside(n, 1, FAR);
        if (bad != 0) {
            return refuse(bad);
        }
        if (!now.passDays(n)) {
            return refuse(ROOM);
        }
        return Integer.bitCount(now.lost);
    }

    public int lostThen(int n) {
        int bad = outside(n, 0, FAR);
        return bad != 0 ? refuse(bad) : Mind.lostBehind(now, now.lost, n);
    }

    public int when(int thing) {
        return now.has(thing) ? Mind.daysUntilLost(now, thing, now.lost) : refuse(NOBODY);
    }

    public int next(int what) {
        switch (what) {
            case 0:
                return Mind.firstToFall(now);
            case 1:
                int first = Mind.firstToFall(now);
                return first == NONE ? NONE : Mind.daysUntilLost(now, first, now.lost);
            case 2:
                return Mind.daysUntilStill(now);
            default:
                return refuse(OTHER);
        }
    }

    public int roots(int thing, int what) {
        if (!now.has(thing)) {
            return refuse(NOBODY);
        }
        if (!isPart(what)) {
            return refuse(OTHER);
        }
        return what == 0 ? now.rootsOf(thing) : now.fruitsOf(thing);
    }

    public int nails() {
        return now.withoutCauses();
    }

    public int guard(int thing, int n) {
        if (!now.has(thing)) {
            return refuse(NOBODY);
        }
        int bad = outside(n, 0, NEAR);
        return bad != 0 ? refuse(bad) : Mind.fewestToGuard(now, thing, n);
    }

    public int weak(int n) {
        int bad = outside(n, 0, NEAR);
        return bad != 0 ? refuse(bad) : Mind.bestToGuard(now, n);
    }

    public int tack(int thing) {
        return now.has(thing) ? Mind.soonestNail(now, thing) : refuse(NOBODY);
    }

    public int worst(int n) {
        int bad = outside(n, 0, NEAR);
        return bad != 0 ? refuse(bad) : Mind.worstNail(now, n);
    }

    public int fewest(int thing) {
        return now.has(thing) ? Mind.fewestToLose(now, thing) : refuse(NOBODY);
    }

    public long blame(int nail, int thing, int part) {
        if (!now.has(nail) || !now.has(thing)) {
            return refuseLong(NOBODY);
        }
        int first = Orders.firstNails(now);
        if ((first & 1 << nail) == 0) {
            return refuseLong(NOT_SO);
        }
        if (!isPart(part)) {
            return refuseLong(OTHER);
        }
        return Fractions.part(Orders.blaming(now, nail, thing), Orders.ofThese(Integer.bitCount(first)), part);
    }

    public int saved(int thing, int n) {
        if (!now.has(thing)) {
            return refuse(NOBODY);
        }
        int bad = outside(n, 0, NEAR);
        return bad != 0 ? refuse(bad) : Mind.savedBy(now, thing, n);
    }

    public int hooks(int what) {
        if (!isPart(what)) {
            return refuse(OTHER);
        }
        if (what == 0) {
            return Mind.lostBehind(now, now.lost, 1) & ~now.lost;
        }
        return now.all() & ~Mind.lostBehind(now, now.lost, FAR);
    }

    public int key() {
        return now.withMostFruits();
    }

    public int twins(int what) {
        if (!isPart(what)) {
            return refuse(OTHER);
        }
        return what == 0 ? now.howManyTwins() : now.firstTwins();
    }

    public int two(int a, int b, int n) {
        if (!now.has(a) || !now.has(b) || a == b) {
            return refuse(NOBODY);
        }
        int bad = outside(n, 0, NEAR);
        if (bad != 0) {
            return refuse(bad);
        }
        int both = 1 << a | 1 << b;
        if ((now.openNails() & both) != both) {
            return refuse(NOT_SO);
        }
        return Game.firstSettled(now, a, b, n);
    }

    public long boys(int found, int thing, int n, int t, int part) {
        if (!now.has(found) || !now.has(thing)) {
            return refuseLong(NOBODY);
        }
        if (n < 0 || t < 2) {
            return refuseLong(BELOW);
        }
        if (n > Boys.MOST_DAYS || t > Boys.LONGEST_ODDS) {
            return refuseLong(ROOM);
        }
        if (!isPart(part)) {
            return refuseLong(OTHER);
        }
        return Fractions.part(Boys.waysToLose(now, found, thing, n, t), Fractions.power(t, n), part);
    }

    public long mean(int part) {
        if (!isPart(part)) {
            return refuseLong(OTHER);
        }
        return Fractions.part(now.allCauses(), Math.max(1, now.size), part);
    }

    public int whatWas(int thing, int what) {
        if (!now.has(thing)) {
            return refuse(NOBODY);
        }
        if (!isPart(what)) {
            return refuse(OTHER);
        }
        return what == 0 ? kindsBySuchNumbers(thing) : figuresBySuchNumbers(thing);
    }

    public int row(int v) {
        if (v < 0) {
            return refuse(BELOW);
        }
        if (v > GREATEST_IN_ROW || numbers.isFull()) {
            return refuse(ROOM);
        }
        return numbers.add(v);
    }

    public int judge() {
        int answer = firstMisjudged();
        numbers.forget();
        return answer;
    }

    public int clear() {
        int had = numbers.size;
        numbers.forget();
        return had;
    }

    public int lots(int n, int z, int what) {
        int bad = outside(n, 1, Lot.MOST_WARS);
        if (bad != 0) {
            return refuse(bad);
        }
        if (!isPart(what)) {
            return refuse(OTHER);
        }
        if (now.size == 0) {
            return refuse(NOT_SO);
        }
        return lot.lostInWars(now, n, z, what == 0 ? now.all() : 1 << now.size - 1);
    }

    public int image() {
        kept.becomes(now);
        isKept = true;
        return now.day;
    }

    public int on() {
        if (!isKept) {
            return refuse(NOT_SO);
        }
        now.becomes(kept);
        return now.day;
    }

    public int count(int what) {
        switch (what) {
            case 0:
                return now.size;
            case 1:
                return now.day;
            case 2:
                return now.lost;
            case 3:
                return now.guarded;
            case 4:
                return now.allCauses();
            case 5:
                return Integer.bitCount(now.withoutCauses() & ~now.lost);
            case 6:
                return numbers.size;
            case 7:
                return told.size;
            default:
                return what > 10 && what <= 10 + REFUSAL_KINDS ? refusals[what - 10] : NONE;
        }
    }

    private int refuse(int code) {
        int which = -code;
        if (which > 0 && which < refusals.length) {
            refusals[which]++;
        }
        return code;
    }

    private long refuseLong(int code) {
        return REFUSED_LONG - refuse(code);
    }

    /** BELOW, ROOM, or 0 where n is from the least to the greatest. */
    private static int outside(int n, int least, int greatest) {
        if (n < least) {
            return BELOW;
        }
        return n > greatest ? ROOM : 0;
    }

    private static boolean isPart(int what) {
        return what == 0 || what == 1;
    }

    private int kindsBySuchNumbers(int thing) {
        trial.becomes(now);
        int bits = 0;
        for (int kind = 0; kind < Realm.KIND_COUNT; kind++) {
            trial.setKind(thing, kind);
            if (numbers.tellLosses(trial)) {
                bits |= 1 << kind;
            }
        }
        return bits;
    }

    private int figuresBySuchNumbers(int thing) {
        trial.becomes(now);
        int bits = 0;
        for (int figure = 0; figure <= Realm.GREATEST_FIGURE; figure++) {
            trial.setFigure(thing, figure);
            if (numbers.tellLosses(trial)) {
                bits |= 1 << figure;
            }
        }
        return bits;
    }

    private int firstMisjudged() {
        for (int thing = 0; thing < numbers.size; thing++) {
            if (!now.has(thing)) {
                return thing;
            }
            int due = Mind.daysUntilLost(now, thing, now.lost);
            if (numbers.at(thing) != (due == NONE ? NEVER_IN_ROW : due)) {
                return thing;
            }
        }
        return NONE;
    }

    /** The THINGS as they are, and what a DAY does to them. Sets of THINGS are bits. */
    private static final class Realm {
        static final int MOST_THINGS = 9;
        static final int GREATEST_FIGURE = 9;
        static final int KIND_COUNT = 6;
        private static final int LAST_DAY = 999;
        private static final int SHOE = 1;
        private static final int HORSE = 2;
        private static final int BATTLE = 3;
        private static final int KITE = 4;
        private static final int WALL = 5;
        /** More CAUSES than a THING can have. */
        private static final int NEVER = MOST_THINGS + 1;
        /** Every KITE comes round in so many DAYS: what they leave as it is stays so. */
        static final int QUIET_DAYS = GREATEST_FIGURE + 1;

        private final int[] kinds;
        private final int[] figures;
        private final int[] causeBits;
        private int size;
        private int lost;
        private int guarded;
        private int day;

        Realm() {
            kinds = new int[MOST_THINGS];
            figures = new int[MOST_THINGS];
            causeBits = new int[MOST_THINGS];
        }

        void becomes(Realm other) {
            for (int thing = 0; thing < MOST_THINGS; thing++) {
                kinds[thing] = other.kinds[thing];
                figures[thing] = other.figures[thing];
                causeBits[thing] = other.causeBits[thing];
            }
            size = other.size;
            lost = other.lost;
            guarded = other.guarded;
            day = other.day;
        }

        static boolean isKind(int kind) {
            return kind >= 0 && kind < KIND_COUNT;
        }

        private static boolean isFigure(int figure) {
            return figure >= 0 && figure <= GREATEST_FIGURE;
        }

        boolean has(int thing) {
            return thing >= 0 && thing < size && thing < MOST_THINGS;
        }

        int all() {
            return (1 << size) - 1;
        }

        int kindOf(int thing) {
            return has(thing) ? kinds[thing] : 0;
        }

        int figureOf(int thing) {
            return has(thing) ? figures[thing] : 0;
        }

        int causesOf(int thing) {
            return has(thing) ? causeBits[thing] : 0;
        }

        boolean isLost(int thing) {
            return has(thing) && (lost & 1 << thing) != 0;
        }

        boolean isGuarded(int thing) {
            return has(thing) && (guarded & 1 << thing) != 0;
        }

        boolean add(int kind, int figure) {
            if (size >= MOST_THINGS || !isKind(kind) || !isFigure(figure)) {
                return false;
            }
            kinds[size] = kind;
            figures[size] = figure;
            causeBits[size] = 0;
            size++;
            return true;
        }

        void setKind(int thing, int kind) {
            if (has(thing) && isKind(kind)) {
                kinds[thing] = kind;
            }
        }

        void setFigure(int thing, int figure) {
            if (has(thing) && isFigure(figure)) {
                figures[thing] = figure;
            }
        }

        boolean flipCause(int thing, int cause) {
            if (!has(thing) || !has(cause) || cause >= thing) {
                return false;
            }
            causeBits[thing] ^= 1 << cause;
            return true;
        }

        boolean lose(int thing) {
            if (!has(thing) || isGuarded(thing)) {
                return false;
            }
            lost |= 1 << thing;
            return true;
        }

        boolean mend(int thing) {
            if (!has(thing)) {
                return false;
            }
            lost &= ~(1 << thing);
            return true;
        }

        boolean flipGuard(int thing) {
            if (!has(thing)) {
                return false;
            }
            guarded ^= 1 << thing;
            return true;
        }

        boolean passDays(int n) {
            if (n < 1 || n > FAR || day + n > LAST_DAY) {
                return false;
            }
            lost = behindDays(lost, guarded, day, n);
            day += n;
            return true;
        }

        /** What is LOST behind the DAY of that number, where these were LOST ahead of it: never by no CAUSES, all of none. */
        int behindDay(int ahead, int safe, int number) {
            int then = ahead;
            for (int thing = 0; thing < size && thing < MOST_THINGS; thing++) {
                int bit = 1 << thing;
                int gone = Integer.bitCount(causeBits[thing] & ahead);
                boolean isOpen = ((ahead | safe) & bit) == 0;
                if (isOpen && gone > 0 && gone >= needed(thing, Integer.bitCount(causeBits[thing]), number)) {
                    then |= bit;
                }
            }
            return then;
        }

        /** What is LOST behind n DAYS more than the DAY of the number "from", these LOST now and those GUARDED. */
        int behindDays(int ahead, int safe, int from, int n) {
            int then = ahead;
            int quiet = 0;
            for (int i = 1; i <= n && quiet < QUIET_DAYS; i++) {
                int behind = behindDay(then, safe, from + i);
                quiet = behind == then ? quiet + 1 : 0;
                then = behind;
            }
            return then;
        }

        /** How many of c CAUSES must be LOST for the THING on the DAY of that number. */
        private int needed(int thing, int c, int number) {
            if (thing < 0 || thing >= MOST_THINGS) {
                return NEVER;
            }
            switch (kinds[thing]) {
                case SHOE:
                    return 1;
                case HORSE:
                    return c > 1 ? 2 : 1;
                case BATTLE:
                    return c;
                case KITE:
                    int every = figures[thing] + 1;
                    return every > 0 && number % every == 0 ? 1 : NEVER;
                case WALL:
                    return c / 2 + 1;
                default:
                    return NEVER;
            }
        }

        int withoutCauses() {
            int bits = 0;
            for (int thing = 0; thing < size; thing++) {
                if (causesOf(thing) == 0) {
                    bits |= 1 << thing;
                }
            }
            return bits;
        }

        int open() {
            return all() & ~lost & ~guarded;
        }

        int openNails() {
            return withoutCauses() & open();
        }

        int allCauses() {
            int sum = 0;
            for (int thing = 0; thing < size; thing++) {
                sum += Integer.bitCount(causesOf(thing));
            }
            return sum;
        }

        /** One pass down is enough: CAUSES are of lesser numbers. */
        int rootsOf(int thing) {
            int bits = causesOf(thing);
            for (int lesser = thing - 1; lesser >= 0; lesser--) {
                if ((bits & 1 << lesser) != 0) {
                    bits |= causesOf(lesser);
                }
            }
            return bits;
        }

        int fruitsOf(int thing) {
            int bits = 0;
            for (int other = 0; other < size; other++) {
                if ((rootsOf(other) & 1 << thing) != 0) {
                    bits |= 1 << other;
                }
            }
            return bits;
        }

        /** Steps down from the THING as long as there are CAUSES of those where the last step came to. */
        int depthOf(int thing) {
            int layer = causesOf(thing);
            int depth = 0;
            while (layer != 0 && depth < MOST_THINGS) {
                depth++;
                layer = causesOfThese(layer);
            }
            return depth;
        }

        private int causesOfThese(int things) {
            int bits = 0;
            for (int thing = 0; thing < size; thing++) {
                if ((things & 1 << thing) != 0) {
                    bits |= causesOf(thing);
                }
            }
            return bits;
        }

        int withMostFruits() {
            int best = NONE;
            int most = -1;
            for (int thing = 0; thing < size; thing++) {
                int fruits = Integer.bitCount(fruitsOf(thing));
                if (fruits > most) {
                    most = fruits;
                    best = thing;
                }
            }
            return best;
        }

        private boolean areTwins(int a, int b) {
            return kindOf(a) == kindOf(b) && causesOf(a) == causesOf(b);
        }

        int howManyTwins() {
            int sum = 0;
            for (int lesser = 0; lesser < size; lesser++) {
                for (int other = lesser + 1; other < size; other++) {
                    if (areTwins(lesser, other)) {
                        sum++;
                    }
                }
            }
            return sum;
        }

        int firstTwins() {
            for (int lesser = 0; lesser < size; lesser++) {
                for (int other = lesser + 1; other < size; other++) {
                    if (areTwins(lesser, other)) {
                        return 10 * lesser + other;
                    }
                }
            }
            return NONE;
        }
    }

    /** Letters that tell a STATE. */
    private static final class Telling {
        private static final int MOST_LETTERS = 96;
        private static final int OF_FORM = -1000;
        private static final int OF_SENSE = -2000;
        private static final int NO_LETTER = -1;
        private static final String KIND_LETTERS = "nshbkw";

        private final int[] letters;
        private int size;

        Telling() {
            letters = new int[MOST_LETTERS];
        }

        boolean isFull() {
            return size >= MOST_LETTERS;
        }

        int add(int c) {
            if (!isFull()) {
                letters[size] = c;
                size++;
            }
            return size;
        }

        void forget() {
            size = 0;
        }

        private int at(int place) {
            return place >= 0 && place < size && place < MOST_LETTERS ? letters[place] : NO_LETTER;
        }

        /** How many letters a STATEMENT has, by its first one; 0 if none begins so. */
        private static int lengthBy(int first) {
            switch (first) {
                case 't':
                case 'c':
                case 'd':
                    return 4;
                case 'l':
                case 'm':
                case 'g':
                    return 3;
                default:
                    return 0;
            }
        }

        /** The FAULT of kind 1, or 0. */
        int faultOfForm() {
            int place = 0;
            while (place < size) {
                int length = lengthBy(at(place));
                if (length == 0) {
                    return OF_FORM - place;
                }
                for (int behind = 1; behind < length; behind++) {
                    if (!goesOn(at(place), behind, length, at(place + behind))) {
                        return OF_FORM - (place + behind);
                    }
                }
                place += length;
            }
            return size == 0 ? OF_FORM : 0;
        }

        private static boolean goesOn(int first, int behind, int length, int c) {
            if (behind == length - 1) {
                return c == ';';
            }
            if (first == 't' && behind == 1) {
                return kindBy(c) >= 0;
            }
            return c >= '0' && c <= '9';
        }

        private static int kindBy(int c) {
            return c < 0 ? NO_LETTER : KIND_LETTERS.indexOf((char) c);
        }

        /** How many STATEMENTS came, or the FAULT of kind 2; of letters that have none of kind 1. */
        int comeOver(Realm realm) {
            int statements = 0;
            int place = 0;
            while (place < size) {
                if (!comes(place, realm)) {
                    return OF_SENSE - place;
                }
                statements++;
                place += Math.max(1, lengthBy(at(place)));
            }
            return statements;
        }

        private boolean comes(int place, Realm realm) {
            int first = at(place + 1) - '0';
            int second = at(place + 2) - '0';
            switch (at(place)) {
                case 't':
                    return realm.add(kindBy(at(place + 1)), second);
                case 'c':
                    return realm.flipCause(first, second);
                case 'l':
                    return realm.lose(first);
                case 'm':
                    return realm.mend(first);
                case 'g':
                    return realm.flipGuard(first);
                case 'd':
                    return realm.passDays(10 * first + second);
                default:
                    return false;
            }
        }
    }

    /** The numbers of the ROW. */
    private static final class Numbers {
        private static final int MOST_NUMBERS = 16;

        private final int[] values;
        private int size;

        Numbers() {
            values = new int[MOST_NUMBERS];
        }

        boolean isFull() {
            return size >= MOST_NUMBERS;
        }

        int add(int v) {
            if (!isFull()) {
                values[size] = v;
                size++;
            }
            return size;
        }

        void forget() {
            size = 0;
        }

        int at(int place) {
            return place >= 0 && place < size && place < MOST_NUMBERS ? values[place] : NONE;
        }

        /** Whether they are how many are LOST behind 0, 1, .. DAYS. */
        boolean tellLosses(Realm realm) {
            int lost = realm.lost;
            for (int behind = 0; behind < size; behind++) {
                if (behind > 0) {
                    lost = realm.behindDay(lost, realm.guarded, realm.day + behind);
                }
                if (at(behind) != Integer.bitCount(lost)) {
                    return false;
                }
            }
            return true;
        }
    }

    /** What is asked of a Realm in mind; nothing of it is changed. */
    private static final class Mind {
        private static final int STILL_DAYS = 12;

        static int lostBehind(Realm realm, int lost, int n) {
            return realm.behindDays(lost, realm.guarded, realm.day, n);
        }

        static int daysUntilLost(Realm realm, int thing, int lost) {
            int bit = 1 << thing;
            int then = lost;
            int quiet = 0;
            for (int n = 0; n <= FAR && quiet < Realm.QUIET_DAYS; n++) {
                if ((then & bit) != 0) {
                    return n;
                }
                int behind = realm.behindDay(then, realm.guarded, realm.day + n + 1);
                quiet = behind == then ? quiet + 1 : 0;
                then = behind;
            }
            return NONE;
        }

        static int firstToFall(Realm realm) {
            int then = realm.lost;
            for (int n = 1; n <= FAR; n++) {
                then = realm.behindDay(then, realm.guarded, realm.day + n);
                if (then != realm.lost) {
                    return Integer.numberOfTrailingZeros(then & ~realm.lost);
                }
            }
            return NONE;
        }

        static int daysUntilStill(Realm realm) {
            int then = realm.lost;
            for (int n = 0; n <= FAR; n++) {
                if (realm.behindDays(then, realm.guarded, realm.day + n, STILL_DAYS) == then) {
                    return n;
                }
                then = realm.behindDay(then, realm.guarded, realm.day + n + 1);
            }
            return NONE;
        }

        /** One is always enough: the told THING itself. */
        static int fewestToGuard(Realm realm, int thing, int n) {
            int told = 1 << thing;
            if (realm.isLost(thing)) {
                return NONE;
            }
            if ((lostBehind(realm, realm.lost, n) & told) == 0) {
                return 0;
            }
            for (int one = 0; one < realm.size; one++) {
                int bit = 1 << one;
                if ((realm.open() & bit) != 0 && (lostIfGuarded(realm, bit, n) & told) == 0) {
                    return bit;
                }
            }
            return NONE;
        }

        private static int lostIfGuarded(Realm realm, int more, int n) {
            return realm.behindDays(realm.lost, realm.guarded | more, realm.day, n);
        }

        static int bestToGuard(Realm realm, int n) {
            int best = NONE;
            int least = Integer.bitCount(lostBehind(realm, realm.lost, n));
            for (int one = 0; one < realm.size; one++) {
                int bit = 1 << one;
                if ((realm.open() & bit) != 0) {
                    int sum = Integer.bitCount(lostIfGuarded(realm, bit, n));
                    if (sum < least) {
                        least = sum;
                        best = one;
                    }
                }
            }
            return best;
        }

        static int soonestNail(Realm realm, int thing) {
            int best = NONE;
            int soonest = daysUntilLost(realm, thing, realm.lost);
            int nails = realm.openNails();
            for (int nail = 0; nail < realm.size; nail++) {
                if ((nails & 1 << nail) != 0) {
                    int until = daysUntilLost(realm, thing, realm.lost | 1 << nail);
                    if (until != NONE && (soonest == NONE || until < soonest)) {
                        soonest = until;
                        best = nail;
                    }
                }
            }
            return best;
        }

        static int worstNail(Realm realm, int n) {
            int best = NONE;
            int most = Integer.bitCount(lostBehind(realm, realm.lost, n));
            int nails = realm.openNails();
            for (int nail = 0; nail < realm.size; nail++) {
                if ((nails & 1 << nail) != 0) {
                    int sum = Integer.bitCount(lostBehind(realm, realm.lost | 1 << nail, n));
                    if (sum > most) {
                        most = sum;
                        best = nail;
                    }
                }
            }
            return best;
        }

        static int fewestToLose(Realm realm, int thing) {
            int best = NONE;
            int fewest = Realm.MOST_THINGS + 1;
            int nails = realm.openNails();
            for (int set = 0; set <= realm.all(); set++) {
                boolean isFewer = (set & ~nails) == 0 && Integer.bitCount(set) < fewest;
                if (isFewer && daysUntilLost(realm, thing, realm.lost | set) != NONE) {
                    best = set;
                    fewest = Integer.bitCount(set);
                }
            }
            return best;
        }

        static int savedBy(Realm realm, int thing, int n) {
            int asIs = lostBehind(realm, realm.lost, n);
            int ifWhole = lostBehind(realm, realm.lost & ~(1 << thing), n);
            return Integer.bitCount(asIs) - Integer.bitCount(ifWhole);
        }
    }

    /** BLAME: the first of NAILS LOST one behind the other, in all orders. */
    private static final class Orders {
        private static final int MOST_NAILS = 5;
        private static final int DAYS_BETWEEN = 10;

        static int firstNails(Realm realm) {
            int nails = realm.withoutCauses();
            int first = 0;
            for (int nail = 0; nail < realm.size && Integer.bitCount(first) < MOST_NAILS; nail++) {
                first |= nails & 1 << nail;
            }
            return first;
        }

        static long ofThese(int nails) {
            long orders = 1;
            for (int i = 2; i <= nails; i++) {
                orders *= i;
            }
            return orders;
        }

        static long blaming(Realm realm, int nail, int thing) {
            return blamingOf(realm, nail, thing, firstNails(realm), 0, 0);
        }

        /** Of the orders of those left, by how many the nail is the one behind which the told THING is LOST first. */
        private static long blamingOf(Realm realm, int nail, int thing, int left, int lost, int depth) {
            if (left == 0 || depth >= MOST_NAILS) {
                return 0;
            }
            long orders = 0;
            for (int one = 0; one < realm.size; one++) {
                int bit = 1 << one;
                if ((left & bit) != 0) {
                    int from = realm.day + DAYS_BETWEEN * depth;
                    int then = realm.behindDays(lost | bit, 0, from, DAYS_BETWEEN);
                    if ((then & 1 << thing) == 0) {
                        orders += blamingOf(realm, nail, thing, left & ~bit, then, depth + 1);
                    } else if (one == nail) {
                        orders += ofThese(Integer.bitCount(left) - 1);
                    }
                }
            }
            return orders;
        }
    }

    /** TWO who lose their NAILS or not. */
    private static final class Game {
        private static final int PRICE = 2;

        static int firstSettled(Realm realm, int a, int b, int n) {
            for (int x = 0; x <= 1; x++) {
                for (int y = 0; y <= 1; y++) {
                    if (isSettled(realm, x << a, y << b, 1 << a, 1 << b, n)) {
                        return 10 * x + y;
                    }
                }
            }
            return NONE;
        }

        /** Neither has it better by doing the other thing alone: what each does are the bits that he loses. */
        private static boolean isSettled(Realm realm, int first, int second, int a, int b, int n) {
            int otherFirst = first ^ a;
            int otherSecond = second ^ b;
            int lost = lostBy(realm, first, second, n);
            boolean firstStays = lost - price(first) >= lostBy(realm, otherFirst, second, n) - price(otherFirst);
            boolean secondStays = lost + price(second) <= lostBy(realm, first, otherSecond, n) + price(otherSecond);
            return firstStays && secondStays;
        }

        private static int lostBy(Realm realm, int first, int second, int n) {
            return Integer.bitCount(realm.behindDays(realm.lost | first | second, realm.guarded, realm.day, n));
        }

        private static int price(int loses) {
            return loses == 0 ? 0 : PRICE;
        }
    }

    /** BOYS who find a THING by odds. */
    private static final class Boys {
        static final int MOST_DAYS = 6;
        static final int LONGEST_ODDS = 20;

        /** Of t by itself n times: a find on a DAY is one way, none is t less 1 ways. */
        static long waysToLose(Realm realm, int found, int thing, int n, int t) {
            long ways = 0;
            for (int finds = 0; finds < 1 << n; finds++) {
                if ((lostByFinds(realm, 1 << found, n, finds) & 1 << thing) != 0) {
                    ways += Fractions.power(t - 1, n - Integer.bitCount(finds));
                }
            }
            return ways;
        }

        private static int lostByFinds(Realm realm, int foundBit, int n, int finds) {
            int lost = realm.lost;
            for (int i = 0; i < n; i++) {
                if ((finds & 1 << i) != 0) {
                    lost &= ~foundBit;
                }
                lost = realm.behindDay(lost, realm.guarded, realm.day + i + 1);
            }
            return lost;
        }
    }

    /** Wars by lot. */
    private static final class Lot {
        static final int MOST_WARS = 20;
        private static final int DAYS_OF_A_WAR = 15;
        private static final int SIDES = 3;

        private int z;

        /** How many of those counted are LOST, of all wars together. */
        int lostInWars(Realm realm, int n, int seed, int counted) {
            z = seed;
            int sum = 0;
            for (int war = 0; war < n; war++) {
                int begun = drawNails(realm);
                sum += Integer.bitCount(Mind.lostBehind(realm, begun, DAYS_OF_A_WAR) & counted);
            }
            return sum;
        }

        private int drawNails(Realm realm) {
            int nails = realm.withoutCauses();
            int lost = realm.lost & ~nails;
            for (int nail = 0; nail < realm.size; nail++) {
                if ((nails & 1 << nail) != 0 && drawBelow(SIDES) == 0) {
                    lost |= 1 << nail;
                }
            }
            return lost;
        }

        private int drawBelow(int m) {
            z = z * 1664525 + 1013904223;
            return m > 0 ? (z & 0x7fffffff) / 256 % m : 0;
        }
    }

    private static final class Fractions {
        private static final int MOST_STEPS = 200;

        /** Of above by below in least terms: what is above the line (part 0) or below it. */
        static long part(long above, long below, int part) {
            long common = greatestCommon(above, below);
            if (common == 0) {
                return part == 0 ? 0 : 1;
            }
            return part == 0 ? above / common : below / common;
        }

        private static long greatestCommon(long a, long b) {
            long more = a;
            long less = b;
            for (int step = 0; step < MOST_STEPS && less != 0; step++) {
                long rest = more % less;
                more = less;
                less = rest;
            }
            return more;
        }

        static long power(int base, int times) {
            long product = 1;
            for (int i = 0; i < times; i++) {
                product *= base;
            }
            return product;
        }
    }
}
