/**
 * The last seconds of a game between two sides, told in letters: how likely it is that we win from
 * here, both sides at their best, and what each choice, foul, call and player is worth.
 *
 * <p>LEAD is held and told as LEAD and 6 (0 .. 12) everywhere in this file, so that it is never
 * below 0.
 */
public final class NineteenSecondsLeft {
    private static final int MOST_SECONDS = 24;
    private static final int MOST_LEAD = 12;
    private static final int EVEN = 6;
    private static final int MOST_PLAYERS = 6;
    private static final int MOST_LETTERS = 96;
    private static final int MOST_LETTER = 255;
    private static final int MOST_ROW = 20;
    private static final int MOST_ENDS = 30;
    private static final int MOST_DIGIT = 9;

    private static final int OURS = 0;
    private static final int THEIRS = 1;

    // What set() tells of a hall, and the places where Hall holds it.
    private static final int SECONDS = 0;
    private static final int LEAD = 1;
    private static final int BALL = 2;
    private static final int FOULS = 3;
    private static final int CALLS = 5;
    private static final int REBOUND = 7;
    private static final int LAW = 8;
    private static final int DRAW = 9;
    private static final int[] GREATEST = {24, 12, 1, 5, 5, 2, 2, 9, 3, 9};
    private static final int FIRST_REBOUND = 3;
    private static final int FIRST_DRAW = 5;

    // What player() tells of a player, and the places where Squad holds it.
    private static final int FACTS = 5;
    private static final int SIDE = 0;
    private static final int KIND = 1;
    private static final int FIRST_ODDS = 2;

    private static final int HOT = 1;
    private static final int TIRED = 2;
    private static final int BIG = 3;
    private static final int ROOKIE = 4;
    private static final int COLD = 5;
    /** A rookie is calm in SECONDS above these. */
    private static final int NERVOUS_SECONDS = 9;

    // What hits() tells, and the choices; FAR's odds are behind FAR and QUICK both.
    private static final int NEAR = 0;
    private static final int FAR = 1;
    private static final int FREE = 2;
    private static final int QUICK = 2;
    private static final int HOLD = 3;
    private static final int SHOTS = 3;
    private static final int[] TAKES = {4, 3, 1, 5};
    private static final int BEST_IS_HOLD = 93;

    private static final int LAWS = 4;
    private static final int TARGET = 1;
    private static final int STOPPED = 2;
    private static final int NO_FAR = 3;
    /** By the law TARGET it ends where LEAD is so far from 0. */
    private static final int TARGET_LEAD = 3;

    private static final int WIN = 1000000000;
    private static final int HALF = 500000000;
    private static final int TENTH = 100000000;

    private static final int NONE = -9;
    private static final int NOBODY = -1;
    private static final int OTHER = -2;
    private static final int STATE = -3;
    private static final int BELOW = -4;
    private static final int ROOM = -6;
    private static final int REFUSALS = 6;
    /** Refusals of calls whose answers may be below 0 are told as this less them. */
    private static final int FAR_ABOVE = 2000000000;

    private final Hall now = new Hall();
    private final Hall kept = new Hall();
    private boolean isKept = false;
    private final Letters letters = new Letters();
    private final int[] numbers = new int[MOST_ROW];
    private int numbersSize = 0;
    private final int[] refusals = new int[REFUSALS + 1];
    /** The values by the hall as it is: started anew whenever what they hang on changes. */
    private final Lamp lamp = new Lamp();
    /** The values by a hall that is a little other than it is. */
    private final Lamp otherLamp = new Lamp();
    private int seed = 0;

    public NineteenSecondsLeft() {
    }

    public int letter(int c) {
        int fault = outside(c, MOST_LETTER);
        if (fault == 0 && letters.isFull()) {
            fault = ROOM;
        }
        return fault != 0 ? refused(fault) : letters.add(c);
    }

    public int hall() {
        int answer = letters.fault(now.squad.players());
        if (answer == 0) {
            answer = letters.tellAll(now);
            lamp.start(now);
        }
        letters.clear();
        return answer;
    }

    public int player(int player, int what) {
        if (!now.squad.has(player)) {
            return refused(NOBODY);
        }
        if (what < 0 || what >= FACTS) {
            return refused(OTHER);
        }
        return now.squad.fact(player, what);
    }

    public int hits(int player, int what, int seconds) {
        if (!now.squad.has(player)) {
            return refused(NOBODY);
        }
        if (what < NEAR || what > FREE) {
            return refused(OTHER);
        }
        int fault = outside(seconds, MOST_SECONDS);
        return fault != 0 ? refused(fault) : now.squad.tenths(player, what, seconds);
    }

    public int set(int what, int v) {
        if (what < 0 || what >= GREATEST.length) {
            return refused(OTHER);
        }
        int fault = outside(v, GREATEST[what]);
        if (fault != 0) {
            return refused(fault);
        }
        int was = now.told(what);
        now.tell(what, v);
        if (what >= REBOUND) {
            lamp.start(now);
        }
        return was;
    }

    public int here() {
        return valueNow();
    }

    public int of(int seconds, int lead, int ball) {
        int fault = outsideState(seconds, lead, ball);
        if (fault != 0) {
            return refused(fault);
        }
        lamp.solveTo(seconds);
        return lamp.valueAt(seconds, lead, ball);
    }

    public int best(int seconds, int lead, int ball) {
        int fault = outsideState(seconds, lead, ball);
        if (fault != 0) {
            return refused(fault);
        }
        lamp.solveTo(seconds);
        return lamp.bestAt(seconds, lead, ball);
    }

    public int from(int lead, int ball) {
        int fault = outsideState(0, lead, ball);
        if (fault != 0) {
            return refused(fault);
        }
        lamp.solveTo(MOST_SECONDS);
        int seconds = 0;
        while (seconds < MOST_SECONDS && isShotBest(seconds + 1, lead, ball)) {
            seconds++;
        }
        return seconds;
    }

    public int point() {
        int value = valueNow();
        int leadThen = heldLead(now.told(LEAD) + 1);
        return lamp.valueAt(now.told(SECONDS), leadThen, now.told(BALL)) - value;
    }

    public int twoOrThree() {
        if (now.told(BALL) != OURS || isOverNow() || now.squad.ofSide(OURS) == 0) {
            return refusedFarAbove(STATE);
        }
        return bestOfOurs(NEAR) - bestOfOurs(FAR);
    }

    public int rebound() {
        otherLamp.start(now);
        otherLamp.changeRebound(MOST_DIGIT);
        int most = otherValueNow();
        otherLamp.start(now);
        otherLamp.changeRebound(0);
        return most - otherValueNow();
    }

    public int foul(int player) {
        if (!now.squad.has(player)) {
            return refused(NOBODY);
        }
        if (!mayFoul() || now.squad.fact(player, SIDE) != THEIRS) {
            return refused(STATE);
        }
        return valueOfTwoFree(player, now.told(SECONDS) - 1, OURS);
    }

    public int whom(int what) {
        if (what < 0 || what > 1) {
            return refused(OTHER);
        }
        if (!mayFoul() || now.squad.ofSide(THEIRS) == 0) {
            return refused(STATE);
        }
        int answer = NONE;
        int greatest = 0;
        for (int player = 0; player < now.squad.players(); player++) {
            if (now.squad.fact(player, SIDE) == THEIRS) {
                int value = valueOfTwoFree(player, now.told(SECONDS) - 1, OURS);
                if (answer == NONE || value > greatest) {
                    answer = player;
                    greatest = value;
                }
            }
        }
        if (what == 0) {
            return answer;
        }
        return greatest > valueNow() ? 1 : 0;
    }

    public int freed(int player) {
        if (!now.squad.has(player)) {
            return refused(NOBODY);
        }
        if (now.squad.fact(player, SIDE) != OURS || isOverNow()) {
            return refused(STATE);
        }
        return valueOfTwoFree(player, now.told(SECONDS), THEIRS);
    }

    public int doubled(int free, int guarded) {
        int fault = outsidePair(free, guarded);
        if (fault != 0) {
            return refused(fault);
        }
        startDouble(free, guarded);
        return otherValueNow();
    }

    public int howGood(int free, int guarded) {
        int fault = outsidePair(free, guarded);
        if (fault != 0) {
            return refused(fault);
        }
        int value = valueNow();
        for (int near = 0; near <= MOST_DIGIT; near++) {
            startDouble(free, guarded);
            otherLamp.changeNear(free, near);
            if (otherValueNow() >= value) {
                return near;
            }
        }
        return NONE;
    }

    public int call() {
        if (now.told(CALLS) == 0 || now.told(BALL) != OURS) {
            return refusedFarAbove(STATE);
        }
        otherLamp.start(now);
        otherLamp.raiseAll(OURS);
        return otherValueNow() - valueNow();
    }

    public int on() {
        if (now.squad.ofSide(OURS) < 2) {
            return NONE;
        }
        int answer = NONE;
        int greatest = 0;
        for (int player = 0; player < now.squad.players(); player++) {
            if (now.squad.fact(player, SIDE) == OURS) {
                otherLamp.start(now);
                otherLamp.change(player, Lamp.ABSENT);
                int value = otherValueNow();
                if (answer == NONE || value > greatest) {
                    answer = player;
                    greatest = value;
                }
            }
        }
        return answer;
    }

    public int byLaw(int law) {
        if (law < 0 || law >= LAWS) {
            return refused(OTHER);
        }
        otherLamp.start(now);
        otherLamp.changeLaw(law);
        return otherValueNow();
    }

    public int fairest() {
        int answer = 0;
        int least = WIN;
        for (int law = 0; law < LAWS; law++) {
            otherLamp.start(now);
            otherLamp.changeLaw(law);
            int away = Math.abs(otherValueNow() - HALF);
            if (away < least) {
                answer = law;
                least = away;
            }
        }
        return answer;
    }

    public int hand(int s) {
        int fault = outside(s, MOST_SECONDS);
        if (fault != 0) {
            return refused(fault);
        }
        int bits = 0;
        for (int choice = 0; choice < SHOTS; choice++) {
            if (takes(choice) <= s) {
                bits |= 1 << choice;
            }
        }
        return bits;
    }

    public int row(int v) {
        int fault = outside(v, MOST_DIGIT);
        if (fault == 0 && numbersSize >= numbers.length) {
            fault = ROOM;
        }
        if (fault != 0) {
            return refused(fault);
        }
        numbers[numbersSize] = v;
        numbersSize++;
        return numbersSize;
    }

    public int judge() {
        int answer = placeThatCanNotBe();
        numbersSize = 0;
        return answer;
    }

    public int lots(int n, int z) {
        int fault = n < 1 ? BELOW : outside(n, MOST_ENDS);
        if (fault != 0) {
            return refused(fault);
        }
        seed = z;
        int answer = 0;
        for (int i = 0; i < n; i++) {
            int lead = leadByLot();
            answer += lead > EVEN ? 100 : lead == EVEN ? 1 : 0;
        }
        return answer;
    }

    public int image() {
        kept.copy(now);
        isKept = true;
        return now.told(SECONDS);
    }

    public int restore() {
        if (!isKept) {
            return refused(STATE);
        }
        now.copy(kept);
        lamp.start(now);
        return now.told(SECONDS);
    }

    public int count(int what) {
        switch (what) {
            case 0:
                return now.squad.players();
            case 1:
                return now.squad.ofSide(OURS);
            case 2:
                return now.told(SECONDS);
            case 3:
                return now.told(LEAD);
            case 4:
                return now.told(BALL);
            case 5:
                return now.told(LAW);
            case 6:
                return numbersSize;
            case 7:
                return letters.size();
            default:
                return what > 10 && what - 10 < refusals.length ? refusals[what - 10] : NONE;
        }
    }

    private int refused(int number) {
        if (-number > 0 && -number < refusals.length) {
            refusals[-number]++;
        }
        return number;
    }

    private int refusedFarAbove(int number) {
        return FAR_ABOVE - refused(number);
    }

    private static int outside(int number, int most) {
        if (number < 0) {
            return BELOW;
        }
        return number > most ? ROOM : 0;
    }

    private static int outsideState(int seconds, int lead, int ball) {
        if (seconds < 0 || lead < 0 || ball < 0) {
            return BELOW;
        }
        return seconds > MOST_SECONDS || lead > MOST_LEAD || ball > THEIRS ? ROOM : 0;
    }

    private int outsidePair(int free, int guarded) {
        if (!now.squad.has(free) || !now.squad.has(guarded) || free == guarded) {
            return NOBODY;
        }
        boolean areOurs =
                now.squad.fact(free, SIDE) == OURS && now.squad.fact(guarded, SIDE) == OURS;
        return areOurs ? 0 : STATE;
    }

    private static int takes(int choice) {
        return choice < 0 || choice >= TAKES.length ? 0 : TAKES[choice];
    }

    /** By t tenths the first, else the second; cut. */
    private static int mix(int t, int hit, int miss) {
        return (int) (((long) t * hit + (long) (10 - t) * miss) / 10);
    }

    private static int heldLead(int lead) {
        if (lead < 0) {
            return 0;
        }
        return lead > MOST_LEAD ? MOST_LEAD : lead;
    }

    private int valueNow() {
        int seconds = now.told(SECONDS);
        lamp.solveTo(seconds);
        return lamp.valueAt(seconds, now.told(LEAD), now.told(BALL));
    }

    private int otherValueNow() {
        int seconds = now.told(SECONDS);
        otherLamp.solveTo(seconds);
        return otherLamp.valueAt(seconds, now.told(LEAD), now.told(BALL));
    }

    private void startDouble(int free, int guarded) {
        otherLamp.start(now);
        otherLamp.change(free, Lamp.RAISED);
        otherLamp.change(guarded, Lamp.HALVED);
    }

    private boolean isOverNow() {
        return lamp.isOver(now.told(SECONDS), now.told(LEAD));
    }

    private boolean isShotBest(int seconds, int lead, int ball) {
        int best = lamp.bestAt(seconds, lead, ball);
        return best != BEST_IS_HOLD && best != NONE;
    }

    private int bestOfOurs(int choice) {
        int seconds = now.told(SECONDS);
        lamp.solveTo(seconds);
        int greatest = 0;
        for (int player = 0; player < now.squad.players(); player++) {
            if (now.squad.fact(player, SIDE) == OURS) {
                int value = lamp.valueOfShot(player, choice, seconds, now.told(LEAD));
                greatest = Math.max(greatest, value);
            }
        }
        return greatest;
    }

    private boolean mayFoul() {
        return now.told(BALL) == THEIRS && !isOverNow() && now.told(FOULS) < GREATEST[FOULS];
    }

    /**
     * He shoots two free ones by his odds in the seconds as they are, then a side has the ball with
     * so many seconds. The lamp is asked behind both alone: between them nothing ends.
     */
    private int valueOfTwoFree(int player, int secondsThen, int ballThen) {
        lamp.solveTo(now.told(SECONDS));
        int t = now.squad.tenths(player, FREE, now.told(SECONDS));
        int point = now.squad.fact(player, SIDE) == OURS ? 1 : -1;
        int lead = now.told(LEAD);
        int leadOfOne = heldLead(lead + point);
        int leadOfBoth = heldLead(leadOfOne + point);
        int none = lamp.valueAt(secondsThen, lead, ballThen);
        int one = lamp.valueAt(secondsThen, leadOfOne, ballThen);
        int both = lamp.valueAt(secondsThen, leadOfBoth, ballThen);
        return mix(t, mix(t, both, one), mix(t, one, none));
    }

    /** A place is a number's: the choice's where it alone can not be, else its player's. */
    private int placeThatCanNotBe() {
        int seconds = now.told(SECONDS);
        int ball = now.told(BALL);
        for (int i = 0; i < numbersSize && i < numbers.length; i += 2) {
            if (i + 1 >= numbersSize || i + 1 >= numbers.length) {
                return i;
            }
            int choice = numbers[i + 1];
            boolean mayChoose = choice == HOLD || hasBall(numbers[i], ball);
            if (!mayChoose || lamp.isOver(seconds, now.told(LEAD))) {
                return i;
            }
            if (choice > HOLD) {
                return i + 1;
            }
            seconds = Math.max(0, seconds - takes(choice));
            ball = choice == HOLD ? ball : 1 - ball;
        }
        return NONE;
    }

    private boolean hasBall(int player, int ball) {
        return now.squad.has(player) && now.squad.fact(player, SIDE) == ball;
    }

    /** One end from here by lot: the lead then. */
    private int leadByLot() {
        int seconds = now.told(SECONDS);
        int lead = now.told(LEAD);
        int ball = now.told(BALL);
        lamp.solveTo(seconds);
        for (int i = 0; i < MOST_SECONDS && !lamp.isOver(seconds, lead); i++) {
            int best = lamp.bestAt(seconds, lead, ball);
            int choice = best % 10;
            boolean isOff = choice != HOLD && takes(choice) <= seconds;
            if (isOff && draw(10) < lamp.tenths(best / 10, choice, seconds)) {
                lead = lamp.leadBehind(choice, lead, ball);
                seconds = lamp.secondsBehindHit(choice, seconds);
                ball = 1 - ball;
            } else {
                seconds = Math.max(0, seconds - takes(choice));
                ball = isOff && draw(10) >= now.told(REBOUND) ? 1 - ball : ball;
            }
        }
        return lead;
    }

    private int draw(int m) {
        seed = seed * 1664525 + 1013904223;
        return m < 1 ? 0 : (seed & 0x7fffffff) / 256 % m;
    }

    /** The players as they came, by number. */
    private static final class Squad {
        private final int[] facts = new int[MOST_PLAYERS * FACTS];
        private int size = 0;

        int players() {
            return size;
        }

        boolean has(int player) {
            return player >= 0 && player < size;
        }

        int ofSide(int side) {
            int answer = 0;
            for (int player = 0; player < size; player++) {
                answer += fact(player, SIDE) == side ? 1 : 0;
            }
            return answer;
        }

        int fact(int player, int what) {
            int place = player * FACTS + what;
            return place < 0 || place >= facts.length ? 0 : facts[place];
        }

        void change(int player, int what, int v) {
            int place = player * FACTS + what;
            if (place >= 0 && place < facts.length) {
                facts[place] = v;
            }
        }

        /** One more, of whom nothing is told yet; his number. */
        int add() {
            size = Math.min(size + 1, MOST_PLAYERS);
            return size - 1;
        }

        void copy(Squad other) {
            size = other.size;
            System.arraycopy(other.facts, 0, facts, 0, facts.length);
        }

        int tenths(int player, int what, int seconds) {
            int told = fact(player, FIRST_ODDS + what);
            int more = Math.min(told + 1, MOST_DIGIT);
            int less = Math.max(told - 1, 0);
            switch (fact(player, KIND)) {
                case HOT:
                    return more;
                case TIRED:
                    return less;
                case BIG:
                    return what == NEAR ? Math.min(told + 2, MOST_DIGIT) : what == FAR ? 0 : told;
                case ROOKIE:
                    return seconds > NERVOUS_SECONDS ? told : less;
                case COLD:
                    return what == NEAR ? more : what == FAR ? more / 2 : told;
                default:
                    return told;
            }
        }
    }

    /** All that letters and set() tell: what an image keeps. */
    private static final class Hall {
        private final int[] told = {19, 5, 0, 0, 0, 1, 1, FIRST_REBOUND, 0, FIRST_DRAW};
        private final Squad squad = new Squad();

        int told(int what) {
            return what < 0 || what >= told.length ? 0 : told[what];
        }

        void tell(int what, int v) {
            if (what >= 0 && what < told.length) {
                told[what] = v;
            }
        }

        void copy(Hall other) {
            System.arraycopy(other.told, 0, told, 0, told.length);
            squad.copy(other.squad);
        }
    }

    /** The letters that have come, and how they are read as statements. */
    private static final class Letters {
        private static final int FAULT_OF_FORM = -1000;
        private static final int FAULT_OF_RANGE = -2000;

        private final int[] signs = new int[MOST_LETTERS];
        private int size = 0;
        private final int[] starts = new int[MOST_LETTERS];
        private int statements = 0;

        int size() {
            return size;
        }

        boolean isFull() {
            return size >= signs.length;
        }

        int add(int c) {
            if (size >= 0 && size < signs.length) {
                signs[size] = c;
                size++;
            }
            return size;
        }

        void clear() {
            size = 0;
        }

        /** 0 if there is none. */
        int fault(int players) {
            int place = placeOfForm();
            if (place >= 0) {
                return FAULT_OF_FORM - place;
            }
            place = placeOfRange(players);
            return place >= 0 ? FAULT_OF_RANGE - place : 0;
        }

        /** Only behind fault(), where it found none: how many statements. */
        int tellAll(Hall hall) {
            for (int k = 0; k < statements && k < starts.length; k++) {
                if (sign(starts[k]) == 'p') {
                    tellPlayer(hall.squad, starts[k]);
                } else {
                    hall.tell(target(starts[k]), number(starts[k]));
                }
            }
            return statements;
        }

        private void tellPlayer(Squad squad, int i) {
            int player = squad.add();
            squad.change(player, SIDE, digit(i + 1));
            squad.change(player, KIND, kind(sign(i + 2)));
            squad.change(player, FIRST_ODDS + NEAR, digit(i + 3));
            squad.change(player, FIRST_ODDS + FAR, digit(i + 4));
            squad.change(player, FIRST_ODDS + FREE, digit(i + 5));
        }

        private int sign(int i) {
            return i >= 0 && i < size && i < signs.length ? signs[i] : -1;
        }

        private int digit(int i) {
            return sign(i) - '0';
        }

        /**
         * What stands behind a statement's first letter: 'd' for a digit, 'k' for a kind's letter,
         * 's' for "+" or "-". Empty where no statement begins so.
         */
        private static String shape(int c) {
            switch (c) {
                case 'p':
                    return "dkddd;";
                case 'c':
                case 'f':
                case 'o':
                    return "dd;";
                case 'l':
                    return "sd;";
                case 'b':
                case 'r':
                case 'w':
                case 'd':
                    return "d;";
                default:
                    return "";
            }
        }

        private static boolean fits(char part, int c) {
            switch (part) {
                case 'd':
                    return c >= '0' && c <= '9';
                case 'k':
                    return kind(c) >= 0;
                case 's':
                    return c == '+' || c == '-';
                default:
                    return c == part;
            }
        }

        private static int kind(int c) {
            switch (c) {
                case 's':
                    return 0;
                case 'h':
                    return HOT;
                case 't':
                    return TIRED;
                case 'b':
                    return BIG;
                case 'o':
                    return ROOKIE;
                case 'k':
                    return COLD;
                default:
                    return -1;
            }
        }

        /** The size where something lacks at the end; -1 for a hall. Finds the starts, too. */
        private int placeOfForm() {
            String shape = "";
            int fitting = 0;
            statements = 0;
            for (int i = 0; i < size; i++) {
                if (fitting < shape.length()) {
                    if (!fits(shape.charAt(fitting), sign(i))) {
                        return i;
                    }
                    fitting++;
                } else {
                    shape = shape(sign(i));
                    if (shape.isEmpty()) {
                        return i;
                    }
                    fitting = 0;
                    addStart(i);
                }
            }
            return size == 0 || fitting < shape.length() ? size : -1;
        }

        private void addStart(int i) {
            if (statements >= 0 && statements < starts.length) {
                starts[statements] = i;
                statements++;
            }
        }

        private int placeOfRange(int players) {
            int room = MOST_PLAYERS - players;
            for (int k = 0; k < statements && k < starts.length; k++) {
                if (sign(starts[k]) == 'p') {
                    room--;
                }
                if (room < 0 || !isInRange(starts[k])) {
                    return starts[k];
                }
            }
            return -1;
        }

        private boolean isInRange(int i) {
            int first = sign(i);
            if ((first == 'p' || first == 'f' || first == 'o') && digit(i + 1) > THEIRS) {
                return false;
            }
            int target = target(i);
            if (target < 0 || target >= GREATEST.length) {
                return true;
            }
            return number(i) >= 0 && number(i) <= GREATEST[target];
        }

        /** What of the hall the statement tells; -1 for a player. */
        private int target(int i) {
            switch (sign(i)) {
                case 'c':
                    return SECONDS;
                case 'l':
                    return LEAD;
                case 'b':
                    return BALL;
                case 'f':
                    return FOULS + digit(i + 1);
                case 'o':
                    return CALLS + digit(i + 1);
                case 'r':
                    return REBOUND;
                case 'w':
                    return LAW;
                case 'd':
                    return DRAW;
                default:
                    return -1;
            }
        }

        private int number(int i) {
            switch (sign(i)) {
                case 'c':
                    return digit(i + 1) * 10 + digit(i + 2);
                case 'l':
                    return EVEN + (sign(i + 1) == '+' ? digit(i + 2) : -digit(i + 2));
                case 'f':
                case 'o':
                    return digit(i + 2);
                default:
                    return digit(i + 1);
            }
        }
    }

    /** Values and best choices of all states, state by state from the lamp (0 seconds) back. */
    private static final class Lamp {
        private static final int ABSENT = 1;
        private static final int RAISED = 2;
        private static final int HALVED = 3;
        private static final int STATES = (MOST_SECONDS + 1) * (MOST_LEAD + 1) * 2;

        private final Squad squad = new Squad();
        private final int[] changes = new int[MOST_PLAYERS];
        private int reboundTenths = FIRST_REBOUND;
        private int lawInForce = 0;
        private int drawTenths = FIRST_DRAW;
        private final int[] values = new int[STATES];
        private final int[] bests = new int[STATES];
        private int solvedRows = 0;
        // Of the row of seconds that is being solved: each player's tenths by choice.
        private final int[] rowTenths = new int[MOST_PLAYERS * SHOTS];
        // Of the state that is being solved: what is behind each choice's hit and miss.
        private final int[] hitValues = new int[SHOTS];
        private final int[] missValues = new int[SHOTS];

        void start(Hall hall) {
            squad.copy(hall.squad);
            for (int player = 0; player < changes.length; player++) {
                changes[player] = 0;
            }
            reboundTenths = hall.told(REBOUND);
            lawInForce = hall.told(LAW);
            drawTenths = hall.told(DRAW);
            solvedRows = 0;
        }

        void changeRebound(int tenths) {
            reboundTenths = tenths;
        }

        void changeLaw(int law) {
            lawInForce = law;
        }

        void changeNear(int player, int near) {
            squad.change(player, FIRST_ODDS + NEAR, near);
        }

        void change(int player, int how) {
            if (player >= 0 && player < changes.length) {
                changes[player] = how;
            }
        }

        void raiseAll(int side) {
            for (int player = 0; player < squad.players(); player++) {
                if (squad.fact(player, SIDE) == side) {
                    change(player, RAISED);
                }
            }
        }

        private int changeOf(int player) {
            return player < 0 || player >= changes.length ? 0 : changes[player];
        }

        int tenths(int player, int choice, int seconds) {
            int t = squad.tenths(player, choice == NEAR ? NEAR : FAR, seconds);
            if (changeOf(player) == RAISED) {
                t = Math.min(t + 1, MOST_DIGIT);
            } else if (changeOf(player) == HALVED) {
                t = t / 2;
            }
            return choice == QUICK ? t / 2 : t;
        }

        boolean isOver(int seconds, int lead) {
            return seconds <= 0
                    || lawInForce == TARGET && Math.abs(lead - EVEN) >= TARGET_LEAD;
        }

        private int valueOfEnd(int lead) {
            if (lead > EVEN) {
                return WIN;
            }
            return lead == EVEN ? drawTenths * TENTH : 0;
        }

        private static int placeOf(int seconds, int lead, int ball) {
            boolean isIn = seconds >= 0 && seconds <= MOST_SECONDS
                    && lead >= 0 && lead <= MOST_LEAD && ball >= OURS && ball <= THEIRS;
            return isIn ? (seconds * (MOST_LEAD + 1) + lead) * 2 + ball : -1;
        }

        int valueAt(int seconds, int lead, int ball) {
            int place = placeOf(seconds, lead, ball);
            return place < 0 || place >= values.length ? 0 : values[place];
        }

        /** 10 times the player and the choice; -9 where it has ended. */
        int bestAt(int seconds, int lead, int ball) {
            int place = placeOf(seconds, lead, ball);
            return place < 0 || place >= bests.length ? NONE : bests[place];
        }

        private void put(int place, int value, int best) {
            if (place >= 0 && place < values.length && place < bests.length) {
                values[place] = value;
                bests[place] = best;
            }
        }

        int leadBehind(int choice, int lead, int ball) {
            int points = choice == NEAR || lawInForce == NO_FAR ? 2 : 3;
            return heldLead(ball == OURS ? lead + points : lead - points);
        }

        int secondsBehindHit(int choice, int seconds) {
            return seconds - (lawInForce == STOPPED ? 1 : takes(choice));
        }

        private int valueBehindHit(int choice, int seconds, int lead, int ball) {
            if (takes(choice) > seconds) {
                return valueOfEnd(lead);
            }
            int leadThen = leadBehind(choice, lead, ball);
            return valueAt(secondsBehindHit(choice, seconds), leadThen, 1 - ball);
        }

        private int valueBehindMiss(int choice, int seconds, int lead, int ball) {
            int secondsThen = Math.max(0, seconds - takes(choice));
            int again = valueAt(secondsThen, lead, ball);
            int lost = valueAt(secondsThen, lead, 1 - ball);
            return mix(reboundTenths, again, lost);
        }

        /** Our player's shot, our ball, in a state whose earlier rows are solved. */
        int valueOfShot(int player, int choice, int seconds, int lead) {
            int hit = valueBehindHit(choice, seconds, lead, OURS);
            int miss = valueBehindMiss(choice, seconds, lead, OURS);
            return mix(tenths(player, choice, seconds), hit, miss);
        }

        /** Rows that are solved already are left as they are. */
        void solveTo(int seconds) {
            int last = Math.min(seconds, MOST_SECONDS);
            for (int row = solvedRows; row <= last; row++) {
                fillTenths(row);
                for (int lead = 0; lead <= MOST_LEAD; lead++) {
                    solveState(row, lead, OURS);
                    solveState(row, lead, THEIRS);
                }
                solvedRows = row + 1;
            }
        }

        private void fillTenths(int seconds) {
            for (int i = 0; i < rowTenths.length; i++) {
                rowTenths[i] = tenths(i / SHOTS, i % SHOTS, seconds);
            }
        }

        private void solveState(int seconds, int lead, int ball) {
            int place = placeOf(seconds, lead, ball);
            if (isOver(seconds, lead)) {
                put(place, valueOfEnd(lead), NONE);
                return;
            }
            for (int choice = 0; choice < SHOTS; choice++) {
                hitValues[choice] = valueBehindHit(choice, seconds, lead, ball);
                missValues[choice] = valueBehindMiss(choice, seconds, lead, ball);
            }
            int value = valueAt(Math.max(0, seconds - takes(HOLD)), lead, ball);
            int best = BEST_IS_HOLD;
            // From the last to the first, so that of several equals the first is left.
            for (int player = squad.players() - 1; player >= 0; player--) {
                boolean mayShoot =
                        squad.fact(player, SIDE) == ball && changeOf(player) != ABSENT;
                for (int choice = SHOTS - 1; choice >= 0 && mayShoot; choice--) {
                    int shot = valueInRow(player, choice);
                    if (ball == OURS ? shot >= value : shot <= value) {
                        value = shot;
                        best = player * 10 + choice;
                    }
                }
            }
            put(place, value, best);
        }

        private int valueInRow(int player, int choice) {
            int i = player * SHOTS + choice;
            if (i < 0 || i >= rowTenths.length || choice < 0 || choice >= SHOTS) {
                return 0;
            }
            return mix(rowTenths[i], hitValues[choice], missValues[choice]);
        }
    }
}
