/**
 * A forest of flagpoles: whoever gets a flag up the highest has the cape till the wind drops.
 * The promises stand in DOC.md; the words written there in capitals are used here in the same sense.
 */
public final class ForestOfPoles {
    public static final int NONE = -1;

    /** What most calls answer to arguments that are none, where NONE is an answer of its own. */
    private static final int OTHERS = -2;
    /** The same of a FLAG, whose climbs go down to -99. */
    private static final int NO_FLAG = -100;

    private static final int MOST_POLES = 8;
    private static final int MOST_POWERS = 6;
    private static final int MOST_FLAGS = MOST_POLES * MOST_POWERS;
    private static final int FLAGS_ON_ONE = 2;
    private static final int MOST_TALL = 99;
    private static final int MOST_PLACE = 99;
    private static final int MOST_HANDS = 9;
    private static final int MOST_PATTERN = 511;
    private static final int MOST_WEAR = 99;
    private static final int MOST_WIND = 9;
    private static final int LAST_HOUR = 9999;
    private static final int MOST_HOURS = 60;
    private static final int MOST_TEXTS = 4;
    private static final int MOST_QUOTA = 99;

    /** The laws; each is also the number of its word among Tape.WORDS. */
    private static final int CLIMBS = 0;
    private static final int TEARS = 1;
    private static final int COUNTS = 2;
    private static final int LAWS = 3;
    /** The other words with a meaning of their own: their numbers among Tape.WORDS. */
    private static final int POLE = 3;
    private static final int POWER = 4;
    private static final int HOIST = 5;
    private static final int LOWER = 6;
    private static final int PRUNE = 7;
    private static final int BLOW = 8;
    private static final int HOUR = 9;
    private static final int AT = 10;
    private static final int ON = 11;
    private static final int BY = 12;
    private static final int OR = 13;
    private static final int AND = 14;
    private static final int NOT = 15;
    private static final int IN = 16;
    private static final int WIND = 17;
    private static final int HANDS = 18;
    private static final int TALL = 19;
    private static final int HEIGHT = 20;
    private static final int WEAR = 21;
    private static final int HERE = 22;
    private static final int PLACE = 23;
    private static final int HOLDS = 24;

    /** Signs of the language that are not written with one byte of their own. */
    private static final int AT_MOST = 'l';
    private static final int AT_LEAST = 'g';
    private static final int LESS_ONE = 'n';
    private static final int UNLESS = '!';
    private static final int BOTH = '&';
    private static final int EITHER = '|';
    private static final int LIST = '[';

    private final State now;
    private final State kept;
    private final Tape tape;
    private final Reader reader;
    private final Lookout lookout;

    public ForestOfPoles() {
        int[] stack = new int[Text.MOST_STACK];
        Text[] texts = new Text[MOST_TEXTS + 1];
        for (int i = 0; i <= MOST_TEXTS; i++) {
            texts[i] = new Text(stack);
        }
        now = new State(texts);
        kept = new State(texts);
        tape = new Tape();
        reader = new Reader(tape, texts[0]);
        lookout = new Lookout();
    }

    public int pole(int tall, int place) {
        return now.forest.plant(tall, place);
    }

    public int power(int hands, int pattern) {
        return now.forest.admit(hands, pattern);
    }

    public int feed(int a, int b, int c, int d, int e) {
        if (tape.length + Tape.FED > Tape.MOST) {
            return NONE;
        }
        tape.append(a);
        tape.append(b);
        tape.append(c);
        tape.append(d);
        tape.append(e);
        return tape.length;
    }

    public int end(int n) {
        if (n < 0 || n > tape.length) {
            return NONE;
        }
        tape.length = n;
        return n;
    }

    public int text() {
        if (now.texts == MOST_TEXTS) {
            return NONE;
        }
        reader.readInto(now.text[now.texts]);
        tape.length = 0;
        if (reader.fault != 0) {
            return NONE;
        }
        now.texts++;
        return now.texts - 1;
    }

    public int fault(int what) {
        if (!reader.hasRead) {
            return NONE;
        }
        switch (what) {
            case 0: return reader.fault;
            case 1: return reader.place;
            default: return NONE;
        }
    }

    public boolean by(int text) {
        if (text != NONE && !now.isText(text)) {
            return false;
        }
        now.ruling = text;
        return true;
    }

    public int hour(int n) {
        if (n < 1 || n > MOST_HOURS || now.forest.hour + n > LAST_HOUR) {
            return OTHERS;
        }
        now.stepHours(n);
        return now.forest.holder;
    }

    public boolean hoist(int power, int pole) {
        return now.stepRaise(power, pole);
    }

    public boolean lower(int power, int pole) {
        return now.stepTakeDown(power, pole);
    }

    public int prune(int pole, int n) {
        return now.stepCut(pole, n) ? now.forest.tall[pole] : NONE;
    }

    public boolean blow(int wind) {
        return now.stepWind(wind);
    }

    public int played(int text) {
        if (!now.isText(text)) {
            return OTHERS;
        }
        Text script = now.text[text];
        for (int i = 0; i < script.clauses; i++) {
            int first = script.first[i];
            int second = script.second[i];
            boolean done = true;
            switch (script.kind[i]) {
                case POLE: done = now.forest.plant(first, second) != NONE; break;
                case POWER: done = now.forest.admit(first, 0) != NONE; break;
                case HOIST: done = now.stepRaise(first, second); break;
                case LOWER: done = now.stepTakeDown(first, second); break;
                case PRUNE: done = now.stepCut(first, second); break;
                case BLOW: done = now.stepWind(first); break;
                case HOUR: done = now.stepHours(first); break;
                default: // a law is no deed
            }
            if (!done) {
                return i;
            }
        }
        return NONE;
    }

    public int centuries(int seed, int n) {
        Forest forest = now.forest;
        if (seed < 0 || seed > 9999 || n < 1 || n > 40 || forest.poles == 0 || forest.powers == 0) {
            return OTHERS;
        }
        now.keepStep();
        forest.x = seed * 2 + 79;
        for (int i = 0; i < n; i++) {
            now.century();
        }
        return forest.holder;
    }

    public int undo() {
        return now.steps.takeBack(now.forest, now.pages) ? now.steps.count : NONE;
    }

    public int ofPole(int pole, int what) {
        Forest forest = now.forest;
        if (!forest.isPole(pole)) {
            return NONE;
        }
        switch (what) {
            case 0: return forest.tall[pole];
            case 1: return forest.place[pole];
            case 2: return forest.powersOn(pole);
            default: return NONE;
        }
    }

    public int ofPower(int power, int what) {
        Forest forest = now.forest;
        if (!forest.isPower(power)) {
            return OTHERS;
        }
        switch (what) {
            case 0: return forest.hands[power];
            case 1: return forest.pattern[power];
            case 2: return forest.polesOf(power);
            case 3: return forest.greatest(power);
            default: return OTHERS;
        }
    }

    public int flag(int power, int pole, int what) {
        Forest forest = now.forest;
        if (!forest.hasFlag(power, pole)) {
            return NO_FLAG;
        }
        int at = pole * MOST_POWERS + power;
        switch (what) {
            case 0: return forest.height[at];
            case 1: return forest.wear[at];
            case 2: return now.ruler().says(CLIMBS, forest, pole, power);
            case 3: return now.ruler().says(TEARS, forest, pole, power);
            case 4: return now.ruler().says(COUNTS, forest, pole, power);
            default: return NO_FLAG;
        }
    }

    public int is(int what) {
        switch (what) {
            case 0: return now.forest.hour;
            case 1: return now.forest.wind;
            case 2: return now.forest.holder;
            case 3: return now.forest.x;
            default: return OTHERS;
        }
    }

    public int book(int i, int what) {
        Book pages = now.pages;
        if (i == NONE) {
            return pages.count;
        }
        if (i < 0 || i >= pages.count) {
            return OTHERS;
        }
        switch (what) {
            case 0: return pages.hours[i];
            case 1: return pages.holders[i];
            default: return OTHERS;
        }
    }

    public int foretold(int n) {
        return n < 1 || n > MOST_HOURS ? OTHERS : lookout.foretell(now, n).holder;
    }

    public int foretoldHeight(int n, int power, int pole) {
        if (n < 1 || n > MOST_HOURS || !now.forest.isPower(power) || !now.forest.isPole(pole)) {
            return OTHERS;
        }
        return lookout.foretell(now, n).height[pole * MOST_POWERS + power];
    }

    public int foretoldWind(int n) {
        return n < 1 || n > MOST_HOURS ? OTHERS : lookout.foretell(now, n).wind;
    }

    public int heldFor(int power) {
        if (power != NONE && !now.forest.isPower(power)) {
            return OTHERS;
        }
        return now.pages.hoursOf(power, now.forest.hour);
    }

    public int nearest(int pole) {
        return now.forest.isPole(pole) ? now.forest.neighbour(pole) : NONE;
    }

    public long drops(int power, int n, boolean low) {
        if (!now.forest.isPower(power) || n < 0 || n > Lookout.MOST_DROP) {
            return NONE;
        }
        int all = 1;
        for (int i = 0; i < n; i++) {
            all *= 10;
        }
        return inLowestTerms(lookout.dropsHeldBy(now, power, n, all), all, low);
    }

    public int hoists(int power, int n, int hour) {
        if (!now.forest.isPower(power) || n < 1 || n > Lookout.MOST_PLAN || hour < NONE || hour >= n) {
            return NONE;
        }
        int fewest = lookout.fewestHoists(now, power, n);
        return fewest == NONE || hour == NONE ? fewest : lookout.plan[hour];
    }

    public int peace(int power) {
        return now.forest.isPower(power) ? now.forest.leastCut(power) : NONE;
    }

    public int strings(int pole) {
        return now.forest.isPole(pole) ? lookout.leastPull(now, pole) : NONE;
    }

    public int marks(int powers) {
        if (powers < 0 || powers >= 1 << now.forest.powers) {
            return NONE;
        }
        return Council.fewestCells(now.forest, powers);
    }

    public int behind(int power) {
        return now.forest.isPower(power) ? Council.mirrored(now.forest, power) : NONE;
    }

    public int afar() {
        return Council.twosAlike(now.forest);
    }

    public int might(int power, int q, boolean low) {
        Forest forest = now.forest;
        if (!forest.isPower(power) || q < 1 || q > MOST_QUOTA) {
            return NONE;
        }
        return inLowestTerms(Council.decided(forest, power, q), Council.orderings(forest.powers), low);
    }

    public int veto(int q) {
        return q < 1 || q > MOST_QUOTA ? NONE : Council.needed(now.forest, q);
    }

    public int shares(int power, int q, int amount) {
        if (!now.forest.isPower(power) || q < 1 || q > MOST_QUOTA || amount < 0 || amount > 9999) {
            return NONE;
        }
        return Council.part(now.forest, power, q, amount);
    }

    public int change(int c, int t, int what) {
        if (c < 0 || c > 999 || t < 0 || t > 99 || what < 0 || what > 2) {
            return NONE;
        }
        int bestHours = 1;
        int bestPence = c;
        int pence = c;
        for (int hours = 2; hours <= 48; hours++) {
            pence += Math.min(MOST_WEAR, (hours - 1) * t);
            if (pence * bestHours < bestPence * hours) {
                bestHours = hours;
                bestPence = pence;
            }
        }
        return what == 0 ? bestHours : inLowestTerms(bestPence, bestHours, what == 2);
    }

    public int found(int place, boolean is) {
        return now.finds.tell(place, is);
    }

    public int rhythms(boolean next) {
        return next ? now.finds.whereNext() : now.finds.countFitting();
    }

    public int ahead(int one, int other) {
        if (one == NONE) {
            now.claims.count = 0;
            return 0;
        }
        if (!now.forest.isPower(one) || !now.forest.isPower(other) || one == other) {
            return OTHERS;
        }
        return now.claims.tell(one, other);
    }

    public int orders(int i) {
        int powers = now.forest.powers;
        int ways = now.claims.countOrders(powers);
        if (i == NONE) {
            return ways;
        }
        return ways == 0 || i < 0 || i >= powers ? NONE : now.claims.inFirst(powers, i);
    }

    public int surely(int one, int other) {
        Forest forest = now.forest;
        if (!forest.isPower(one) || !forest.isPower(other) || one == other
                || now.claims.countOrders(forest.powers) == 0) {
            return NONE;
        }
        return now.claims.allAheadOf(other) >> one & 1;
    }

    public int image() {
        kept.copyFrom(now);
        return now.forest.hour;
    }

    public int back() {
        now.copyFrom(kept);
        return now.forest.hour;
    }

    public int about(int what) {
        switch (what) {
            case 0: return now.forest.poles;
            case 1: return now.forest.powers;
            case 2: return now.texts;
            case 3: return now.ruling;
            case 4: return now.steps.count;
            case 5: return now.finds.count;
            case 6: return now.claims.count;
            case 7: return tape.length;
            default: return OTHERS;
        }
    }

    /** The upper or the lower part of a ratio; the lower one given is above 0. */
    private static int inLowestTerms(int upper, int lower, boolean low) {
        int a = upper;
        int b = lower;
        for (int i = 0; i < 64 && b != 0; i++) {
            int rest = a % b;
            a = b;
            b = rest;
        }
        if (a == 0) {
            return 0;
        }
        return low ? lower / a : upper / a;
    }

    /** All that an image holds. */
    private static final class State {
        final Forest forest = new Forest();
        final Book pages = new Book();
        final Steps steps = new Steps();
        final Finds finds = new Finds();
        final Claims claims = new Claims();
        /**
         * One row for an object and its image: a text that an image has is never read anew, since texts grow only,
         * but for going back to that image. The last one is never read: it has no laws.
         */
        final Text[] text;
        int texts = 0;
        int ruling = NONE;

        State(Text[] sharedTexts) {
            text = sharedTexts;
        }

        void copyFrom(State other) {
            forest.copyFrom(other.forest);
            pages.copyFrom(other.pages);
            steps.copyFrom(other.steps);
            finds.copyFrom(other.finds);
            claims.copyFrom(other.claims);
            texts = other.texts;
            ruling = other.ruling;
        }

        boolean isText(int number) {
            return number >= 0 && number < texts;
        }

        Text ruler() {
            return text[isText(ruling) ? ruling : MOST_TEXTS];
        }

        void keepStep() {
            steps.keep(forest, pages);
        }

        void passHour() {
            int hour = forest.hour;
            int before = forest.holder;
            forest.pass(ruler());
            forest.drawWind();
            if (forest.holder != before) {
                pages.write(hour, forest.holder);
            }
        }

        /** As many of n hours as can pass; whether all do. */
        boolean stepHours(int n) {
            int can = Math.min(n, LAST_HOUR - forest.hour);
            for (int i = 0; i < can; i++) {
                keepStep();
                passHour();
            }
            return can == n;
        }

        boolean stepRaise(int power, int pole) {
            if (!forest.mayRaise(power, pole)) {
                return false;
            }
            keepStep();
            forest.raise(power, pole);
            return true;
        }

        boolean stepTakeDown(int power, int pole) {
            if (!forest.hasFlag(power, pole)) {
                return false;
            }
            keepStep();
            forest.takeDown(power, pole);
            return true;
        }

        boolean stepCut(int pole, int n) {
            if (!forest.mayCut(pole, n)) {
                return false;
            }
            keepStep();
            forest.cut(pole, n);
            return true;
        }

        boolean stepWind(int wind) {
            if (wind < 0 || wind > MOST_WIND || wind == forest.wind) {
                return false;
            }
            keepStep();
            forest.wind = wind;
            return true;
        }

        /** One draw of CENTURIES, without a step of its own. */
        void century() {
            if (forest.poles == 0 || forest.powers == 0) {
                return;
            }
            int x = forest.draw();
            int power = x % forest.powers;
            int pole = x % forest.poles;
            int cut = 1 + x % 3;
            switch (x % 7) {
                case 0:
                case 1:
                    if (forest.mayRaise(power, pole)) {
                        forest.raise(power, pole);
                    }
                    break;
                case 2:
                    forest.takeDown(power, pole);
                    break;
                case 3:
                    if (forest.mayCut(pole, cut)) {
                        forest.cut(pole, cut);
                    }
                    break;
                default:
                    if (forest.hour < LAST_HOUR) {
                        passHour();
                    }
            }
        }
    }

    /** Poles, powers and flags in one hour. A flag's row entry is pole * MOST_POWERS + power. */
    private static final class Forest {
        int poles = 0;
        int powers = 0;
        /** TALL as it was told: to what a pole goes back that is younger than a step taken back. */
        final int[] toldTall = new int[MOST_POLES];
        final int[] tall = new int[MOST_POLES];
        final int[] place = new int[MOST_POLES];
        final int[] hands = new int[MOST_POWERS];
        final int[] pattern = new int[MOST_POWERS];
        /** NONE where there is no flag. */
        final int[] height = new int[MOST_FLAGS];
        final int[] wear = new int[MOST_FLAGS];
        int wind = 3;
        int hour = 0;
        int holder = NONE;
        int x = 79;

        Forest() {
            for (int i = 0; i < MOST_FLAGS; i++) {
                height[i] = NONE;
            }
        }

        void copyFrom(Forest other) {
            poles = other.poles;
            powers = other.powers;
            System.arraycopy(other.toldTall, 0, toldTall, 0, MOST_POLES);
            System.arraycopy(other.tall, 0, tall, 0, MOST_POLES);
            System.arraycopy(other.place, 0, place, 0, MOST_POLES);
            System.arraycopy(other.hands, 0, hands, 0, MOST_POWERS);
            System.arraycopy(other.pattern, 0, pattern, 0, MOST_POWERS);
            momentFrom(other);
        }

        /** What hours and hoists change, and no more: searches copy it at every turn. */
        void momentFrom(Forest other) {
            System.arraycopy(other.height, 0, height, 0, MOST_FLAGS);
            System.arraycopy(other.wear, 0, wear, 0, MOST_FLAGS);
            wind = other.wind;
            hour = other.hour;
            holder = other.holder;
            x = other.x;
        }

        boolean isPole(int pole) {
            return pole >= 0 && pole < poles;
        }

        boolean isPower(int power) {
            return power >= 0 && power < powers;
        }

        int plant(int newTall, int newPlace) {
            if (poles == MOST_POLES || newTall < 1 || newTall > MOST_TALL || newPlace < 0 || newPlace > MOST_PLACE) {
                return NONE;
            }
            toldTall[poles] = newTall;
            tall[poles] = newTall;
            place[poles] = newPlace;
            poles++;
            return poles - 1;
        }

        int admit(int newHands, int newPattern) {
            if (powers == MOST_POWERS || newHands < 1 || newHands > MOST_HANDS
                    || newPattern < 0 || newPattern > MOST_PATTERN) {
                return NONE;
            }
            hands[powers] = newHands;
            pattern[powers] = newPattern;
            powers++;
            return powers - 1;
        }

        boolean hasFlag(int power, int pole) {
            return isPower(power) && isPole(pole) && height[pole * MOST_POWERS + power] != NONE;
        }

        int powersOn(int pole) {
            int bits = 0;
            for (int power = 0; power < powers; power++) {
                if (height[pole * MOST_POWERS + power] != NONE) {
                    bits |= 1 << power;
                }
            }
            return bits;
        }

        int polesOf(int power) {
            int bits = 0;
            for (int pole = 0; pole < poles; pole++) {
                if (height[pole * MOST_POWERS + power] != NONE) {
                    bits |= 1 << pole;
                }
            }
            return bits;
        }

        int greatest(int power) {
            int best = NONE;
            for (int pole = 0; pole < poles; pole++) {
                best = Math.max(best, height[pole * MOST_POWERS + power]);
            }
            return best;
        }

        boolean mayRaise(int power, int pole) {
            return isPower(power) && isPole(pole) && height[pole * MOST_POWERS + power] == NONE
                    && Integer.bitCount(powersOn(pole)) < FLAGS_ON_ONE;
        }

        void raise(int power, int pole) {
            height[pole * MOST_POWERS + power] = 0;
            wear[pole * MOST_POWERS + power] = 0;
        }

        void takeDown(int power, int pole) {
            height[pole * MOST_POWERS + power] = NONE;
        }

        boolean mayCut(int pole, int n) {
            return isPole(pole) && n >= 1 && n < tall[pole];
        }

        void cut(int pole, int n) {
            tall[pole] -= n;
            for (int power = 0; power < powers; power++) {
                int at = pole * MOST_POWERS + power;
                height[at] = Math.min(height[at], tall[pole]);
            }
        }

        /** A draw: X as it was, and X anew. */
        int draw() {
            int drawn = x;
            x = (x * 283 + 181) % 30307;
            return drawn;
        }

        void drawWind() {
            wind = draw() % (MOST_WIND + 1);
        }

        /** An hour but for the next one's wind, which a draw or a question gives. */
        void pass(Text ruler) {
            for (int pole = 0; pole < poles; pole++) {
                for (int power = 0; power < powers; power++) {
                    int at = pole * MOST_POWERS + power;
                    if (height[at] == NONE) {
                        continue;
                    }
                    int higher = height[at] + ruler.says(CLIMBS, this, pole, power);
                    height[at] = Math.max(0, Math.min(tall[pole], higher));
                    wear[at] += ruler.says(TEARS, this, pole, power);
                    if (wear[at] > MOST_WEAR) {
                        takeDown(power, pole);
                    }
                }
            }
            holder = heir(ruler);
            hour++;
        }

        /** Who would be the HOLDER, were it looked for as all is. */
        int heir(Text ruler) {
            if (wind == 0) {
                return NONE;
            }
            int best = NONE;
            int top = NONE;
            for (int pole = 0; pole < poles; pole++) {
                for (int power = 0; power < powers; power++) {
                    int high = height[pole * MOST_POWERS + power];
                    if (high == NONE || high < top || ruler.says(COUNTS, this, pole, power) == 0) {
                        continue;
                    }
                    if (high > top || goesAhead(power, best)) {
                        best = power;
                    }
                    top = high;
                }
            }
            return best;
        }

        /** Of two powers with flags of like height: whether the first one has the cape and not the other. */
        private boolean goesAhead(int power, int other) {
            if (power == holder || other == holder) {
                return power == holder;
            }
            if (other < 0) {
                return true;
            }
            return hands[power] > hands[other] || hands[power] == hands[other] && power < other;
        }

        int neighbour(int pole) {
            int best = NONE;
            int least = MOST_PLACE + 1;
            for (int other = 0; other < poles; other++) {
                int far = Math.abs(place[other] - place[pole]);
                if (other != pole && far < least) {
                    least = far;
                    best = other;
                }
            }
            return best;
        }

        /**
         * PEACE. Where others are that high the pole is cut, though the power is at its highest there too: one other
         * pole on which it is that high, and they are not, keeps its height as it is.
         */
        int leastCut(int power) {
            int top = greatest(power);
            boolean stands = false;
            int feet = 0;
            for (int pole = 0; pole < poles; pole++) {
                if (greatestBut(power, pole) >= top) {
                    feet += tall[pole] - (top - 1);
                } else if (height[pole * MOST_POWERS + power] == top) {
                    stands = true;
                }
            }
            boolean tooLow = top < 2 && feet > 0;
            return top == NONE || !stands || tooLow ? NONE : feet;
        }

        private int greatestBut(int power, int pole) {
            int best = NONE;
            for (int other = 0; other < powers; other++) {
                if (other != power) {
                    best = Math.max(best, height[pole * MOST_POWERS + other]);
                }
            }
            return best;
        }

        /** What holds for a flag where no law says it. */
        int byCustom(int law, int pole, int power) {
            switch (law) {
                case CLIMBS: return hands[power];
                case TEARS: return wind;
                default: return height[pole * MOST_POWERS + power] > 0 ? 1 : 0;
            }
        }

        /** What a NAME of the language is for a flag. */
        int named(int name, int pole, int power) {
            switch (name) {
                case HOUR: return hour;
                case WIND: return wind;
                case POWER: return power;
                case HANDS: return hands[power];
                case TALL: return tall[pole];
                case HEIGHT: return height[pole * MOST_POWERS + power];
                case WEAR: return wear[pole * MOST_POWERS + power];
                case HERE: return Integer.bitCount(powersOn(pole));
                case PLACE: return place[pole];
                case HOLDS: return holder == power ? 1 : 0;
                default: return 0;
            }
        }
    }

    /** The BOOK: the latest holders that were written down. */
    private static final class Book {
        static final int MOST = 40;

        final int[] hours = new int[MOST];
        final int[] holders = new int[MOST];
        int count = 0;

        void copyFrom(Book other) {
            System.arraycopy(other.hours, 0, hours, 0, MOST);
            System.arraycopy(other.holders, 0, holders, 0, MOST);
            count = other.count;
        }

        void write(int hour, int holder) {
            if (count == MOST) {
                System.arraycopy(hours, 1, hours, 0, MOST - 1);
                System.arraycopy(holders, 1, holders, 0, MOST - 1);
                count--;
            }
            hours[count] = hour;
            holders[count] = holder;
            count++;
        }

        int hoursOf(int holder, int hourNow) {
            int sum = 0;
            for (int i = 0; i < count; i++) {
                if (holders[i] == holder) {
                    int until = i + 1 < count ? hours[i + 1] : hourNow;
                    sum += until - hours[i];
                }
            }
            return sum;
        }
    }

    /** The latest steps: of each, in one row, all that taking it back restores. */
    private static final class Steps {
        static final int MOST = 30;
        static final int TALLS = 6;
        static final int HEIGHTS = TALLS + MOST_POLES;
        static final int WEARS = HEIGHTS + MOST_FLAGS;
        static final int HOURS = WEARS + MOST_FLAGS;
        static final int HOLDERS = HOURS + Book.MOST;
        static final int ROW = HOLDERS + Book.MOST;

        private final int[] rows = new int[MOST * ROW];
        private int eldest = 0;
        int count = 0;

        void copyFrom(Steps other) {
            System.arraycopy(other.rows, 0, rows, 0, MOST * ROW);
            eldest = other.eldest;
            count = other.count;
        }

        void keep(Forest forest, Book pages) {
            if (count == MOST) {
                eldest = (eldest + 1) % MOST;
                count--;
            }
            int at = (eldest + count) % MOST * ROW;
            count++;
            rows[at] = forest.poles;
            rows[at + 1] = forest.wind;
            rows[at + 2] = forest.hour;
            rows[at + 3] = forest.holder;
            rows[at + 4] = forest.x;
            rows[at + 5] = pages.count;
            System.arraycopy(forest.tall, 0, rows, at + TALLS, MOST_POLES);
            System.arraycopy(forest.height, 0, rows, at + HEIGHTS, MOST_FLAGS);
            System.arraycopy(forest.wear, 0, rows, at + WEARS, MOST_FLAGS);
            System.arraycopy(pages.hours, 0, rows, at + HOURS, Book.MOST);
            System.arraycopy(pages.holders, 0, rows, at + HOLDERS, Book.MOST);
        }

        boolean takeBack(Forest forest, Book pages) {
            if (count == 0) {
                return false;
            }
            count--;
            int at = (eldest + count) % MOST * ROW;
            int polesThen = rows[at];
            forest.wind = rows[at + 1];
            forest.hour = rows[at + 2];
            forest.holder = rows[at + 3];
            forest.x = rows[at + 4];
            pages.count = rows[at + 5];
            for (int pole = 0; pole < forest.poles; pole++) {
                forest.tall[pole] = pole < polesThen ? rows[at + TALLS + pole] : forest.toldTall[pole];
            }
            System.arraycopy(rows, at + HEIGHTS, forest.height, 0, MOST_FLAGS);
            System.arraycopy(rows, at + WEARS, forest.wear, 0, MOST_FLAGS);
            System.arraycopy(rows, at + HOURS, pages.hours, 0, Book.MOST);
            System.arraycopy(rows, at + HOLDERS, pages.holders, 0, Book.MOST);
            return true;
        }
    }

    /** A TEXT that was read: its clauses, and its laws with each sign behind what it joins. */
    private static final class Text {
        static final int MOST_CLAUSES = 24;
        /** Far above what eight open brackets with their signs and a list of six can ask for. */
        static final int MOST_STACK = 64;
        /** In a law's row: below NAMES are NUMBERS, from there on names, from SIGNS on signs, above LISTS lists. */
        static final int NAMES = 10000;
        static final int SIGNS = 20000;
        static final int LISTS = 30000;
        static final int MOST_VALUE = 1000000;
        /** By laws: the bounds of what each says. */
        private static final int[] LEAST = {-99, 0, 0};
        private static final int[] MOST = {99, 100, 1};

        private final int[] code = new int[Tape.MOST];
        private int size = 0;
        private final int[] from = new int[LAWS];
        private final int[] upTo = new int[LAWS];
        final int[] kind = new int[MOST_CLAUSES];
        final int[] first = new int[MOST_CLAUSES];
        final int[] second = new int[MOST_CLAUSES];
        int clauses = 0;
        private final int[] stack;

        Text(int[] sharedStack) {
            stack = sharedStack;
            for (int law = 0; law < LAWS; law++) {
                from[law] = NONE;
            }
        }

        void empty() {
            size = 0;
            clauses = 0;
            for (int law = 0; law < LAWS; law++) {
                from[law] = NONE;
            }
        }

        boolean has(int law) {
            return from[law] != NONE;
        }

        void beginLaw(int law) {
            from[law] = size;
            upTo[law] = size;
        }

        void endLaw(int law) {
            upTo[law] = size;
        }

        void write(int item) {
            if (size < Tape.MOST) {
                code[size] = item;
                size++;
            }
        }

        void addClause(int newKind, int newFirst, int newSecond) {
            if (clauses < MOST_CLAUSES) {
                kind[clauses] = newKind;
                first[clauses] = newFirst;
                second[clauses] = newSecond;
                clauses++;
            }
        }

        /** What a law says of a flag, within that law's bounds; of an ASK 1 if it is so, else 0. */
        int says(int law, Forest forest, int pole, int power) {
            if (!has(law)) {
                return forest.byCustom(law, pole, power);
            }
            int top = 0;
            for (int i = from[law]; i < upTo[law]; i++) {
                int item = code[i];
                if (item >= SIGNS) {
                    top = join(item, top);
                } else if (top < MOST_STACK) {
                    stack[top] = item < NAMES ? item : forest.named(item - NAMES, pole, power);
                    top++;
                }
            }
            int value = top > 0 ? stack[top - 1] : 0;
            return Math.max(LEAST[law], Math.min(MOST[law], value));
        }

        /** Puts what a sign makes of the values on top of the stack in their stead; how many there are then. */
        private int join(int item, int top) {
            if (item > LISTS) {
                return joinList(item - LISTS, top);
            }
            int sign = item - SIGNS;
            int joins = sign == LESS_ONE || sign == UNLESS ? 1 : 2;
            if (top < joins) {
                return top;
            }
            long a = stack[top - joins];
            long b = stack[top - 1];
            long value = 0;
            switch (sign) {
                case LESS_ONE: value = -b; break;
                case UNLESS: value = 1 - b; break;
                case BOTH: value = a & b; break;
                case EITHER: value = a | b; break;
                case '<': value = a < b ? 1 : 0; break;
                case '>': value = a > b ? 1 : 0; break;
                case '=': value = a == b ? 1 : 0; break;
                case '#': value = a != b ? 1 : 0; break;
                case AT_MOST: value = a <= b ? 1 : 0; break;
                case AT_LEAST: value = a >= b ? 1 : 0; break;
                case '+': value = a + b; break;
                case '-': value = a - b; break;
                case '*': value = a * b; break;
                case '/': value = b == 0 ? 0 : a / b; break;
                default: // no other sign is written
            }
            stack[top - joins] = (int) Math.max(-MOST_VALUE, Math.min(MOST_VALUE, value));
            return top - joins + 1;
        }

        private int joinList(int listed, int top) {
            int at = top - listed - 1;
            if (at < 0) {
                return top;
            }
            int isOne = 0;
            for (int i = at + 1; i < top; i++) {
                if (stack[i] == stack[at]) {
                    isOne = 1;
                }
            }
            stack[at] = isOne;
            return at + 1;
        }
    }

    /** The tape, and its tokens one by one. */
    private static final class Tape {
        static final int MOST = 300;
        static final int FED = 20;
        static final int MOST_NUMBER = 9999;
        /** Kinds of tokens. */
        static final int WORD = 0;
        static final int NUMBER = 1;
        static final int SIGN = 2;
        static final int END = 3;
        static final int UNKNOWN = 4;
        /** A blank stands behind each word, the last one too: it tells where a word ends. */
        static final String WORDS = "climbs tears counts pole power hoist lower prune blow hour at on by or and not in wind hands tall height wear here place holds ";

        private final int[] bytes = new int[MOST];
        int length = 0;
        /** Of the token that was come to; its value is a word's number, a number or a sign. */
        int kind = END;
        int value = 0;
        int start = 0;
        private int next = 0;

        void append(int four) {
            for (int shift = 24; shift >= 0 && length < MOST; shift -= 8) {
                bytes[length] = four >> shift & 255;
                length++;
            }
        }

        void rewind() {
            next = 0;
        }

        void advance() {
            while (next < length && (bytes[next] == 32 || bytes[next] == 10)) {
                next++;
            }
            start = next;
            value = NONE;
            if (next >= length) {
                kind = END;
            } else if (isLetter(bytes[next])) {
                kind = WORD;
                passLetters();
                value = numberOfWord();
            } else if (isDigit(bytes[next])) {
                takeNumber();
            } else {
                takeSign();
            }
        }

        private void passLetters() {
            while (next < length && isLetter(bytes[next])) {
                next++;
            }
        }

        private void takeNumber() {
            int number = 0;
            while (next < length && isDigit(bytes[next])) {
                // more digits keep what is too much as it is, so that it can't run over
                number = Math.min(MOST_NUMBER + 1, number * 10 + bytes[next] - '0');
                next++;
            }
            kind = NUMBER;
            value = number;
        }

        private void takeSign() {
            int sign = bytes[next];
            next++;
            switch (sign) {
                case '<': case '>':
                    kind = SIGN;
                    value = sign;
                    if (next < length && bytes[next] == '=') {
                        next++;
                        value = sign == '<' ? AT_MOST : AT_LEAST;
                    }
                    break;
                case '=': case '#': case '+': case '-': case '*': case '/':
                case '(': case ')': case ',': case ';':
                    kind = SIGN;
                    value = sign;
                    break;
                default:
                    kind = UNKNOWN;
            }
        }

        private int numberOfWord() {
            int number = 0;
            int at = start;
            boolean same = true;
            for (int i = 0; i < WORDS.length(); i++) {
                char letter = WORDS.charAt(i);
                if (letter != ' ') {
                    same = same && at < next && bytes[at] == letter;
                    at++;
                } else if (same && at == next) {
                    return number;
                } else {
                    number++;
                    at = start;
                    same = true;
                }
            }
            return NONE;
        }

        private static boolean isLetter(int b) {
            return b >= 'a' && b <= 'z' || b >= 'A' && b <= 'Z';
        }

        private static boolean isDigit(int b) {
            return b >= '0' && b <= '9';
        }
    }

    /** Reads the tape into a text, token by token, up to the first fault. */
    private static final class Reader {
        static final int CANT_STAND = 1;
        static final int NOT_TOLD = 2;
        static final int TOO_DEEP = 3;
        static final int SECOND_TIME = 4;
        static final int NOT_OF_CLAUSE = 5;
        static final int TOO_MANY_CLAUSES = 6;
        static final int TOO_LONG_LIST = 7;
        static final int MOST_OPEN = 8;
        static final int MOST_LISTED = 6;
        /** Eight may be open, with two signs of a sum in each, and a few signs around all. */
        static final int MOST_WAITING = 40;

        /** By clause words: the bounds of the first number, the word behind it, the bounds of the second. */
        private static final int[] LOW = {0, 0, 0, 1, 1, 0, 0, 0, 0, 1};
        private static final int[] HIGH = {0, 0, 0, 99, 9, 5, 5, 7, 9, 60};
        private static final int[] JOINT = {NONE, NONE, NONE, AT, NONE, ON, ON, BY, NONE, NONE};
        private static final int[] SECOND_LOW = {0, 0, 0, 0, 0, 0, 0, 1, 0, 0};
        private static final int[] SECOND_HIGH = {0, 0, 0, 99, 0, 7, 7, 99, 0, 0};

        /** What is to come in a law: an ASK, a ONE, a sign, the bracket of a list, what follows one, nothing. */
        private static final int ASK = 0;
        private static final int ONE = 1;
        private static final int SIGN = 2;
        private static final int BRACKET = 3;
        private static final int BEHIND_LIST = 4;
        private static final int NOTHING = 5;

        /** Ranks of signs: the higher ones are joined first. */
        private static final int OF_EITHER = 1;
        private static final int OF_BOTH = 2;
        private static final int OF_UNLESS = 3;
        private static final int OF_ASK = 4;
        private static final int OF_SUM = 5;
        private static final int OF_PRODUCT = 6;
        private static final int OF_ONE = 7;

        private final Tape tape;
        private Text text;
        boolean hasRead = false;
        int fault = 0;
        int place = NONE;
        private int law = 0;
        private int state = NOTHING;
        /** Signs and brackets that wait for what is behind them. */
        private final int[] waiting = new int[MOST_WAITING];
        private int waits = 0;
        private int open = 0;
        private int brackets = 0;
        private int listed = 0;
        private boolean asked = false;

        Reader(Tape readTape, Text firstText) {
            tape = readTape;
            text = firstText;
        }

        void readInto(Text target) {
            text = target;
            text.empty();
            hasRead = true;
            fault = 0;
            place = NONE;
            tape.rewind();
            tape.advance();
            for (int i = 0; i <= Tape.MOST && fault == 0 && tape.kind != Tape.END; i++) {
                readClause();
                if (fault == 0) {
                    tape.advance();
                }
            }
        }

        private void fail(int number) {
            fault = number;
            place = tape.start;
        }

        private void readClause() {
            int word = tape.kind == Tape.WORD ? tape.value : NONE;
            if (word < CLIMBS || word > HOUR) {
                fail(CANT_STAND);
            } else if (word < LAWS && text.has(word)) {
                fail(SECOND_TIME);
            } else if (text.clauses == Text.MOST_CLAUSES) {
                fail(TOO_MANY_CLAUSES);
            } else if (word < LAWS) {
                readLaw(word);
            } else {
                readDeed(word);
            }
        }

        private void readDeed(int word) {
            int first = readNumber(LOW[word], HIGH[word]);
            int second = 0;
            if (JOINT[word] != NONE) {
                readToken(Tape.WORD, JOINT[word]);
                second = readNumber(SECOND_LOW[word], SECOND_HIGH[word]);
            }
            readToken(Tape.SIGN, ';');
            text.addClause(word, first, second);
        }

        private int readNumber(int low, int high) {
            if (fault != 0) {
                return 0;
            }
            tape.advance();
            if (tape.kind != Tape.NUMBER) {
                fail(CANT_STAND);
            } else if (tape.value < low || tape.value > high) {
                fail(NOT_TOLD);
            }
            return tape.value;
        }

        private void readToken(int kind, int value) {
            if (fault != 0) {
                return;
            }
            tape.advance();
            if (tape.kind != kind || tape.value != value) {
                fail(CANT_STAND);
            }
        }

        private void readLaw(int word) {
            law = word;
            waits = 0;
            open = 0;
            brackets = 0;
            asked = false;
            state = law == COUNTS ? ASK : ONE;
            text.beginLaw(law);
            for (int i = 0; i <= Tape.MOST && fault == 0 && state != NOTHING; i++) {
                tape.advance();
                if (state == ASK || state == ONE) {
                    takeOne();
                } else if (state == BRACKET) {
                    takeBracket();
                } else {
                    takeSign();
                }
            }
            text.endLaw(law);
            text.addClause(law, 0, 0);
        }

        private void takeOne() {
            if (tape.kind == Tape.NUMBER && tape.value > Tape.MOST_NUMBER) {
                fail(NOT_TOLD);
            } else if (tape.kind == Tape.NUMBER) {
                text.write(tape.value);
                state = SIGN;
            } else if (tape.kind == Tape.WORD) {
                takeWord(tape.value);
            } else if (tape.kind == Tape.SIGN && tape.value == '(') {
                openUp('(');
            } else if (tape.kind == Tape.SIGN && tape.value == '-') {
                openUp(LESS_ONE);
            } else {
                fail(CANT_STAND);
            }
        }

        private void takeWord(int word) {
            if (word == NOT && state == ASK) {
                openUp(UNLESS);
            } else if (word != POWER && word != HOUR && word < WIND) {
                fail(CANT_STAND);
            } else if (word == PLACE && law == CLIMBS || word == HOLDS && law == TEARS) {
                fail(NOT_OF_CLAUSE);
            } else {
                text.write(Text.NAMES + word);
                state = SIGN;
            }
        }

        private void openUp(int sign) {
            if (open == MOST_OPEN) {
                fail(TOO_DEEP);
                return;
            }
            open++;
            if (sign == '(' || sign == LIST) {
                brackets++;
            }
            await(sign);
            state = sign == UNLESS ? ASK : ONE;
        }

        private void takeBracket() {
            if (tape.kind == Tape.SIGN && tape.value == '(') {
                listed = 1;
                openUp(LIST);
            } else {
                fail(CANT_STAND);
            }
        }

        /** The sign that a token is behind a ONE; NONE if it is none. */
        private int signHere() {
            if (tape.kind == Tape.SIGN) {
                return tape.value;
            }
            if (tape.kind != Tape.WORD) {
                return NONE;
            }
            switch (tape.value) {
                case OR: return EITHER;
                case AND: return BOTH;
                case IN: return LIST;
                default: return NONE;
            }
        }

        private void takeSign() {
            int sign = signHere();
            boolean ofAsk = law == COUNTS && brackets == 0;
            int rank = rankOf(sign);
            if ((rank == OF_SUM || rank == OF_PRODUCT) && state != BEHIND_LIST) {
                joinBy(sign, rank, ONE);
            } else if (rank == OF_ASK && ofAsk && !asked) {
                asked = true;
                joinBy(sign, OF_SUM, ONE);
            } else if (sign == LIST && ofAsk && !asked) {
                asked = true;
                joinWaiting(OF_SUM);
                state = BRACKET;
            } else if ((rank == OF_EITHER || rank == OF_BOTH) && ofAsk && asked) {
                asked = false;
                joinBy(sign, rank, ASK);
            } else if (sign == ')' && brackets > 0) {
                close();
            } else if (sign == ',' && brackets == 1 && asked && inList()) {
                takeComma();
            } else if (sign == ';' && brackets == 0 && (law != COUNTS || asked)) {
                joinWaiting(OF_EITHER);
                state = NOTHING;
            } else {
                fail(CANT_STAND);
            }
        }

        /** Whether the innermost bracket is a list's: only arithmetic can wait behind it. */
        private boolean inList() {
            joinWaiting(OF_SUM);
            return waits > 0 && waiting[waits - 1] == LIST;
        }

        private void takeComma() {
            if (listed == MOST_LISTED) {
                fail(TOO_LONG_LIST);
            } else {
                listed++;
                state = ONE;
            }
        }

        private void close() {
            joinWaiting(OF_SUM);
            if (waits == 0) {
                fail(CANT_STAND);
                return;
            }
            waits--;
            open--;
            brackets--;
            state = SIGN;
            if (waiting[waits] == LIST) {
                text.write(Text.LISTS + listed);
                state = BEHIND_LIST;
            }
        }

        private void joinBy(int sign, int rank, int stateThen) {
            joinWaiting(rank);
            await(sign);
            state = stateThen;
        }

        private void await(int sign) {
            if (waits < MOST_WAITING) {
                waiting[waits] = sign;
                waits++;
            }
        }

        /** Writes down all waiting signs that are joined ahead of one of that rank. */
        private void joinWaiting(int rank) {
            while (waits > 0 && rankOf(waiting[waits - 1]) >= rank) {
                waits--;
                int sign = waiting[waits];
                if (sign == LESS_ONE || sign == UNLESS) {
                    open--;
                }
                text.write(Text.SIGNS + sign);
            }
        }

        private static int rankOf(int sign) {
            switch (sign) {
                case EITHER: return OF_EITHER;
                case BOTH: return OF_BOTH;
                case UNLESS: return OF_UNLESS;
                case '<': case '>': case '=': case '#': case AT_MOST: case AT_LEAST: return OF_ASK;
                case '+': case '-': return OF_SUM;
                case '*': case '/': return OF_PRODUCT;
                case LESS_ONE: return OF_ONE;
                default: return 0;
            }
        }
    }

    /** Looks at hours to come, in forests of its own. */
    private static final class Lookout {
        static final int MOST_DROP = 3;
        static final int MOST_PLAN = 4;

        /** By depth: the forest ahead of each hour that is tried, and behind the last. */
        private final Forest[] level = new Forest[MOST_PLAN + 1];
        /** By hours: the pole hoisted on; MOST_POLES for none. */
        final int[] plan = new int[MOST_PLAN];
        private int held = 0;

        Lookout() {
            for (int i = 0; i <= MOST_PLAN; i++) {
                level[i] = new Forest();
            }
        }

        Forest foretell(State state, int n) {
            level[0].copyFrom(state.forest);
            for (int i = 0; i < n; i++) {
                level[0].pass(state.ruler());
                level[0].drawWind();
            }
            return level[0];
        }

        /** In how many of all runs of winds (of n hours) a power holds it when the wind drops. */
        int dropsHeldBy(State state, int power, int n, int all) {
            if (state.forest.wind == 0) {
                return state.forest.holder == power ? all : 0;
            }
            for (int i = 0; i < n; i++) {
                level[i].copyFrom(state.forest);
            }
            held = 0;
            tryWinds(state.ruler(), power, n, 0, all);
            return held;
        }

        /** From level depth on, which stands for so many of all runs of winds. */
        private void tryWinds(Text ruler, int power, int n, int depth, int runs) {
            if (depth >= n || depth >= MOST_DROP) {
                return;
            }
            Forest forest = level[depth];
            forest.pass(ruler);
            int runsEach = runs / 10;
            if (forest.holder == power) {
                held += runsEach;
            }
            for (int wind = 1; wind <= MOST_WIND && depth + 1 < n; wind++) {
                level[depth + 1].momentFrom(forest);
                level[depth + 1].wind = wind;
                tryWinds(ruler, power, n, depth + 1, runsEach);
            }
        }

        /** The fewest hoists, and by what plan; fewer are tried first, so that the first plan found is due. */
        int fewestHoists(State state, int power, int n) {
            for (int i = 0; i <= n; i++) {
                level[i].copyFrom(state.forest);
            }
            for (int hoists = 0; hoists <= n; hoists++) {
                if (seek(state.ruler(), power, n, 0, hoists)) {
                    return hoists;
                }
            }
            return NONE;
        }

        /** From level depth on, with so many hoists left. */
        private boolean seek(Text ruler, int power, int n, int depth, int left) {
            Forest forest = level[depth];
            if (depth >= n || depth >= MOST_PLAN) {
                return left == 0 && forest.holder == power;
            }
            Forest next = level[depth + 1];
            for (int pole = NONE; pole < forest.poles; pole++) {
                boolean hoists = pole != NONE;
                // what can't be hoisted isn't tried: to leave it out does the same with fewer
                boolean can = hoists ? left > 0 && forest.mayRaise(power, pole) : left < n - depth;
                if (!can) {
                    continue;
                }
                next.momentFrom(forest);
                if (hoists) {
                    next.raise(power, pole);
                }
                next.pass(ruler);
                next.drawWind();
                plan[depth] = hoists ? pole : MOST_POLES;
                if (seek(ruler, power, n, depth + 1, hoists ? left - 1 : left)) {
                    return true;
                }
            }
            return false;
        }

        /** By how many feet less a pole must be so that the cape would be another's. */
        int leastPull(State state, int pole) {
            Forest forest = level[0];
            forest.copyFrom(state.forest);
            int tall = forest.tall[pole];
            for (int feet = 0; feet < tall; feet++) {
                if (forest.heir(state.ruler()) != forest.holder) {
                    return feet;
                }
                if (forest.mayCut(pole, 1)) {
                    forest.cut(pole, 1);
                }
            }
            return NONE;
        }
    }

    /** Powers by their patterns (row r has the bits 3r, 3r + 1, 3r + 2), and by their hands and a quota. */
    private static final class Council {
        static int fewestCells(Forest forest, int powers) {
            int best = NONE;
            for (int cells = 0; cells <= MOST_PATTERN; cells++) {
                boolean fewer = best == NONE || Integer.bitCount(cells) < Integer.bitCount(best);
                if (fewer && tellsApart(forest, powers, cells)) {
                    best = cells;
                }
            }
            return best;
        }

        private static boolean tellsApart(Forest forest, int powers, int cells) {
            for (int one = 0; one < forest.powers; one++) {
                for (int other = one + 1; other < forest.powers; other++) {
                    boolean both = (powers >> one & powers >> other & 1) == 1;
                    if (both && ((forest.pattern[one] ^ forest.pattern[other]) & cells) == 0) {
                        return false;
                    }
                }
            }
            return true;
        }

        static int mirrored(Forest forest, int power) {
            int cells = forest.pattern[power];
            int middle = cells & 0222;
            int turned = (cells & 0111) << 2 | middle | (cells & 0444) >> 2;
            for (int other = 0; other < forest.powers; other++) {
                if (forest.pattern[other] == turned) {
                    return other;
                }
            }
            return NONE;
        }

        static int twosAlike(Forest forest) {
            int twos = 0;
            for (int one = 0; one < forest.powers; one++) {
                for (int other = one + 1; other < forest.powers; other++) {
                    if (rowsAlike(forest.pattern[one], forest.pattern[other])) {
                        twos++;
                    }
                }
            }
            return twos;
        }

        private static boolean rowsAlike(int one, int other) {
            boolean alike = true;
            for (int row = 0; row < 3; row++) {
                int mask = 7 << 3 * row;
                alike = alike && Integer.bitCount(one & mask) == Integer.bitCount(other & mask);
            }
            return alike;
        }

        static int orderings(int n) {
            int product = 1;
            for (int i = 2; i <= n; i++) {
                product *= i;
            }
            return product;
        }

        private static int handsOf(Forest forest, int powers) {
            int sum = 0;
            for (int power = 0; power < forest.powers; power++) {
                if ((powers >> power & 1) == 1) {
                    sum += forest.hands[power];
                }
            }
            return sum;
        }

        /** In how many orders of all powers this is the one by whom hands get to q. */
        static int decided(Forest forest, int power, int q) {
            int sum = 0;
            for (int before = 0; before < 1 << forest.powers; before++) {
                if ((before >> power & 1) == 1) {
                    continue;
                }
                int hands = handsOf(forest, before);
                if (hands < q && hands + forest.hands[power] >= q) {
                    int ahead = Integer.bitCount(before);
                    sum += orderings(ahead) * orderings(forest.powers - 1 - ahead);
                }
            }
            return sum;
        }

        static int needed(Forest forest, int q) {
            int all = (1 << forest.powers) - 1;
            int bits = 0;
            for (int power = 0; power < forest.powers; power++) {
                if (handsOf(forest, all ^ 1 << power) < q) {
                    bits |= 1 << power;
                }
            }
            return bits;
        }

        static int part(Forest forest, int power, int q, int amount) {
            int orders = orderings(forest.powers);
            if (orders < 1 || handsOf(forest, (1 << forest.powers) - 1) < q) {
                return 0;
            }
            int mine = amount * decided(forest, power, q);
            int left = amount;
            int aheadOfMe = 0;
            for (int other = 0; other < forest.powers; other++) {
                int theirs = amount * decided(forest, other, q);
                left -= theirs / orders;
                int more = theirs % orders - mine % orders;
                if (more > 0 || more == 0 && other < power) {
                    aheadOfMe++;
                }
            }
            return mine / orders + (aheadOfMe < left ? 1 : 0);
        }
    }

    /** FOUND, and the rhythms by which all of it is so. */
    private static final class Finds {
        static final int MOST = 8;
        static final int MOST_STEP = 20;

        private final int[] places = new int[MOST];
        private final boolean[] poleThere = new boolean[MOST];
        private final int[] having = new int[MOST_PLACE + 1];
        int count = 0;

        void copyFrom(Finds other) {
            for (int i = 0; i < MOST; i++) {
                places[i] = other.places[i];
                poleThere[i] = other.poleThere[i];
            }
            count = other.count;
        }

        int tell(int place, boolean there) {
            if (place == NONE) {
                count = 0;
                return 0;
            }
            if (place < 0 || place > MOST_PLACE || count == MOST) {
                return OTHERS;
            }
            places[count] = place;
            poleThere[count] = there;
            count++;
            return count;
        }

        /** How many rhythms fit; by places, how many of these have a pole there. */
        int countFitting() {
            int fit = 0;
            for (int place = 0; place <= MOST_PLACE; place++) {
                having[place] = 0;
            }
            for (int step = 1; step <= MOST_STEP; step++) {
                for (int first = 0; first < step; first++) {
                    if (fits(step, first)) {
                        fit++;
                        countPlaces(step, first);
                    }
                }
            }
            return fit;
        }

        private boolean fits(int step, int first) {
            boolean fit = true;
            for (int i = 0; i < count && step > 0; i++) {
                boolean poleDue = places[i] % step == first;
                fit = fit && poleDue == poleThere[i];
            }
            return fit;
        }

        private void countPlaces(int step, int first) {
            for (int place = first; place <= MOST_PLACE && step > 0; place += step) {
                having[place]++;
            }
        }

        int whereNext() {
            int all = countFitting();
            int best = NONE;
            int least = 0;
            for (int place = 0; place <= MOST_PLACE && all >= 2; place++) {
                int off = Math.abs(2 * having[place] - all);
                if (!isTold(place) && (best == NONE || off < least)) {
                    best = place;
                    least = off;
                }
            }
            return best;
        }

        private boolean isTold(int place) {
            boolean told = false;
            for (int i = 0; i < count; i++) {
                told = told || places[i] == place;
            }
            return told;
        }
    }

    /** AHEAD, and the orders of all powers by that. */
    private static final class Claims {
        static final int MOST = 10;

        private final int[] ones = new int[MOST];
        private final int[] others = new int[MOST];
        private final int[] ways = new int[1 << MOST_POWERS];
        int count = 0;

        void copyFrom(Claims other) {
            System.arraycopy(other.ones, 0, ones, 0, MOST);
            System.arraycopy(other.others, 0, others, 0, MOST);
            count = other.count;
        }

        int tell(int one, int other) {
            if (count == MOST) {
                return OTHERS;
            }
            ones[count] = one;
            others[count] = other;
            count++;
            return count;
        }

        /** The powers (bits) told to be ahead of this one. */
        private int toldAheadOf(int power) {
            int bits = 0;
            for (int i = 0; i < count; i++) {
                if (others[i] == power) {
                    bits |= 1 << ones[i];
                }
            }
            return bits;
        }

        /** The same with those ahead of these, and so on. */
        int allAheadOf(int power) {
            int bits = toldAheadOf(power);
            for (int turn = 0; turn < MOST_POWERS; turn++) {
                for (int other = 0; other < MOST_POWERS; other++) {
                    if ((bits >> other & 1) == 1) {
                        bits |= toldAheadOf(other);
                    }
                }
            }
            return bits;
        }

        int countOrders(int powers) {
            int all = (1 << powers) - 1;
            ways[0] = 1;
            for (int set = 1; set <= all; set++) {
                ways[set] = 0;
                for (int last = 0; last < powers; last++) {
                    int before = set & ~(1 << last);
                    if (before != set && (toldAheadOf(last) & ~before) == 0) {
                        ways[set] += ways[before];
                    }
                }
            }
            return ways[all];
        }

        /** The i-th of the first order; asked only if there is an order at all. */
        int inFirst(int powers, int i) {
            int placed = 0;
            for (int turn = 0; turn < i; turn++) {
                placed |= 1 << lowestFree(powers, placed);
            }
            return lowestFree(powers, placed);
        }

        private int lowestFree(int powers, int placed) {
            for (int power = 0; power < powers; power++) {
                boolean isPlaced = (placed >> power & 1) == 1;
                if (!isPlaced && (toldAheadOf(power) & ~placed) == 0) {
                    return power;
                }
            }
            return 0;
        }
    }
}
