/**
 * REFUSALS: which number each wrong call answers, the first that fits where several do, and that
 * nothing changes by it but how many there were. Each is looked at beside a twin without it.
 */
public final class RefusalsTest extends Checks {
    private static final int MIN = Integer.MIN_VALUE;
    private static final int MAX = Integer.MAX_VALUE;
    private static final int FAR_ABOVE = 2000000000;
    /** PLAYERS 0, 2, 4 are ours, 1, 3 theirs; there is no 5. */
    private static final String TEXT =
            "p0s573;p1k464;p0b385;p1o799;p0t648;c11;l+1;f02;f13;o02;o11;r4;w2;d6;";
    private static final int[] WRONG_PLAYERS = {-1, 5, 6, 9, MIN, MAX};

    /** A call whose answer is looked at. */
    private interface Call {
        int of(NineteenSecondsLeft x);
    }

    public static void main(String[] args) {
        RefusalsTest test = new RefusalsTest();
        test.letterAndRow();
        test.player();
        test.hits();
        test.set();
        test.ofAndBest();
        test.from();
        test.foul();
        test.whom();
        test.freed();
        test.pairs();
        test.law();
        test.handAndLots();
        test.restore();
        test.farAbove();
        test.neverRefused();
        test.end();
    }

    private static NineteenSecondsLeft anew(String more) {
        NineteenSecondsLeft x = game(TEXT + more);
        x.image();
        x.set(7, 5);
        x.row(0);
        x.row(2);
        x.row(3);
        x.letter('c');
        x.letter('1');
        return x;
    }

    private void refused(String what, int number, Call call) {
        refused(what, number, "", call);
    }

    /** Behind more letters the call answers the number, and its twin without it answers as it does. */
    private void refused(String what, int number, String more, Call call) {
        NineteenSecondsLeft x = anew(more);
        NineteenSecondsLeft twin = anew(more);
        due(what, call.of(x), number);
        int counted = number > 0 ? number - FAR_ABOVE : -number;
        for (int k = 1; k <= 6; k++) {
            due(what + " is counted, " + k, x.count(10 + k) - twin.count(10 + k), k == counted ? 1 : 0);
        }
        for (int k = 0; k < 46; k++) {
            due(what + " changes nothing, " + k, look(x, k), look(twin, k));
        }
        due(what + ", once more", call.of(x), number);
    }

    /** What an object answers, one call after the other; the last ones change it. */
    private static int look(NineteenSecondsLeft x, int k) {
        if (k < 8) {
            return x.count(k);
        }
        if (k < 33) {
            return x.player((k - 8) / 5, (k - 8) % 5);
        }
        switch (k) {
            case 33: return x.here();
            case 34: return x.best(11, 7, 0);
            case 35: return x.lots(9, 9);
            case 36: return x.judge();
            case 37: return x.letter('7');
            case 38: return x.letter(';');
            case 39: return x.hall();
            case 40: return x.count(2);
            case 41: return fouls(x);
            case 42: return x.restore();
            case 43: return x.here();
            case 44: return fouls(x);
            default: return x.set(7, 0);
        }
    }

    private static int fouls(NineteenSecondsLeft x) {
        int answer = 0;
        for (int what = 0; what <= 9; what++) {
            int was = x.set(what, 0);
            x.set(what, was);
            answer = answer * 7 + was;
        }
        return answer;
    }

    private void letterAndRow() {
        sentence("A letter (0 .. 255) comes: how many there are. -4; -6 (255; 96, too).");
        refused("letter(-1)", -4, x -> x.letter(-1));
        refused("letter(MIN)", -4, x -> x.letter(MIN));
        refused("letter(256)", -6, x -> x.letter(256));
        refused("letter(MAX)", -6, x -> x.letter(MAX));
        NineteenSecondsLeft full = new NineteenSecondsLeft();
        for (int i = 0; i < 96; i++) {
            full.letter("b1;".charAt(i % 3));
        }
        due("a letter more", full.letter('b'), -6);
        due("both above and no room", full.letter(256), -6);
        due("below ahead of no room", full.letter(-1), -4);
        due("counted, -6", full.count(16), 2);
        due("counted, -4", full.count(14), 1);
        due("all letters stay", full.hall(), 32);
        sentence("A number more of the ROW (0 .. 9): how many. -4; -6 (9; 20, too).");
        refused("row(-1)", -4, x -> x.row(-1));
        refused("row(MIN)", -4, x -> x.row(MIN));
        refused("row(10)", -6, x -> x.row(10));
        refused("row(MAX)", -6, x -> x.row(MAX));
        for (int i = 0; i < 20; i++) {
            full.row(3);
        }
        due("a number more", full.row(3), -6);
        due("both above and no room", full.row(10), -6);
        due("below ahead of no room", full.row(-1), -4);
        due("counted, -6", full.count(16), 4);
        due("counted, -4", full.count(14), 2);
        due("as many", full.count(6), 20);
    }

    private void player() {
        sentence("2 NEAR, 3 FAR, 4 FREE as told. -1; -2.");
        for (int p : WRONG_PLAYERS) {
            refused("player(" + p + ", 0)", -1, x -> x.player(p, 0));
            refused("player(" + p + ", 5)", -1, x -> x.player(p, 5));
        }
        for (int what : new int[] {-1, 5, MIN, MAX}) {
            refused("player(0, " + what + ")", -2, x -> x.player(0, what));
            refused("player(4, " + what + ")", -2, x -> x.player(4, what));
        }
        due("nobody at all", new NineteenSecondsLeft().player(0, 0), -1);
    }

    private void hits() {
        sentence("a FREE one (2) in SECONDS (0 .. 24). -1; -2; -4; -6 24.");
        for (int p : WRONG_PLAYERS) {
            refused("hits(" + p + ", 0, 0)", -1, x -> x.hits(p, 0, 0));
            refused("hits(" + p + ", 3, 25)", -1, x -> x.hits(p, 3, 25));
            refused("hits(" + p + ", 0, -1)", -1, x -> x.hits(p, 0, -1));
        }
        for (int what : new int[] {-1, 3, MIN, MAX}) {
            refused("hits(0, " + what + ", 0)", -2, x -> x.hits(0, what, 0));
            refused("hits(0, " + what + ", -1)", -2, x -> x.hits(0, what, -1));
            refused("hits(0, " + what + ", 25)", -2, x -> x.hits(0, what, 25));
        }
        refused("hits(4, 2, -1)", -4, x -> x.hits(4, 2, -1));
        refused("hits(4, 2, MIN)", -4, x -> x.hits(4, 2, MIN));
        refused("hits(4, 2, 25)", -6, x -> x.hits(4, 2, 25));
        refused("hits(4, 2, MAX)", -6, x -> x.hits(4, 2, MAX));
    }

    private void set() {
        sentence("becomes v: what it was. -2; -4; -6 (24; 12; 1; 5; 5; 2; 2; 9; 3; 9).");
        int[] most = {24, 12, 1, 5, 5, 2, 2, 9, 3, 9};
        for (int what = 0; what < most.length; what++) {
            int w = what;
            int m = most[what];
            refused("set(" + w + ", -1)", -4, x -> x.set(w, -1));
            refused("set(" + w + ", MIN)", -4, x -> x.set(w, MIN));
            refused("set(" + w + ", " + (m + 1) + ")", -6, x -> x.set(w, m + 1));
            refused("set(" + w + ", MAX)", -6, x -> x.set(w, MAX));
        }
        for (int what : new int[] {-1, 10, 11, MIN, MAX}) {
            refused("set(" + what + ", 0)", -2, x -> x.set(what, 0));
            refused("set(" + what + ", -1)", -2, x -> x.set(what, -1));
            refused("set(" + what + ", 99)", -2, x -> x.set(what, 99));
        }
    }

    private void ofAndBest() {
        int[][] below = {{-1, 0, 0}, {0, -1, 0}, {0, 0, -1}, {-1, 13, 2}, {25, -1, 2}, {25, 13, -1},
            {MIN, MAX, MAX}, {MAX, MIN, MAX}, {MAX, MAX, MIN}, {-1, -1, -1}};
        int[][] above = {{25, 0, 0}, {0, 13, 0}, {0, 0, 2}, {25, 13, 2}, {MAX, 0, 0}, {0, MAX, 0},
            {0, 0, MAX}};
        sentence("OF (lead: LEAD and 6). -4 any; -6 (24; 12; 1).");
        for (int[] s : below) {
            refused("of(" + s[0] + ", " + s[1] + ", " + s[2] + ")", -4, x -> x.of(s[0], s[1], s[2]));
        }
        for (int[] s : above) {
            refused("of(" + s[0] + ", " + s[1] + ", " + s[2] + ")", -6, x -> x.of(s[0], s[1], s[2]));
        }
        sentence("BEST there; -9. -4; -6 likewise.");
        for (int[] s : below) {
            refused("best(" + s[0] + ", " + s[1] + ", " + s[2] + ")", -4, x -> x.best(s[0], s[1], s[2]));
        }
        for (int[] s : above) {
            refused("best(" + s[0] + ", " + s[1] + ", " + s[2] + ")", -6, x -> x.best(s[0], s[1], s[2]));
        }
    }

    private void from() {
        sentence("FROM (lead: LEAD and 6; SECONDS 1 .. 24). -4 either; -6 (12; 1).");
        int[][] below = {{-1, 0}, {0, -1}, {-1, 2}, {13, -1}, {MIN, MAX}, {MAX, MIN}};
        int[][] above = {{13, 0}, {0, 2}, {13, 2}, {MAX, 0}, {0, MAX}};
        for (int[] s : below) {
            refused("from(" + s[0] + ", " + s[1] + ")", -4, x -> x.from(s[0], s[1]));
        }
        for (int[] s : above) {
            refused("from(" + s[0] + ", " + s[1] + ")", -6, x -> x.from(s[0], s[1]));
        }
    }

    private void foul() {
        sentence("FOUL. -1; -3 not their BALL, it has ended, he is ours, FOULS.");
        for (int p : WRONG_PLAYERS) {
            refused("foul(" + p + ")", -1, "b1;", x -> x.foul(p));
            refused("foul(" + p + "), our BALL, ended", -1, "b0;c00;", x -> x.foul(p));
        }
        refused("our BALL", -3, "b0;", x -> x.foul(1));
        refused("ended", -3, "b1;c00;", x -> x.foul(1));
        refused("ended by TARGET", -3, "b1;w1;l-3;", x -> x.foul(1));
        refused("ended by TARGET, 3 ahead", -3, "b1;w1;l+3;", x -> x.foul(1));
        refused("he is ours", -3, "b1;", x -> x.foul(0));
        refused("5 FOULS", -3, "b1;f05;", x -> x.foul(1));
        refused("all of it", -3, "b0;f05;c00;", x -> x.foul(0));
        holds("else not", game(TEXT + "b1;f04;f15;").foul(1) >= 0);
        holds("else not, 1 SECOND", game(TEXT + "b1;c01;w1;l-2;").foul(3) >= 0);
    }

    private void whom() {
        sentence("WHOM (what 0), PAYS (1). -2; -3 likewise (none of them, too).");
        for (int what : new int[] {-1, 2, MIN, MAX}) {
            refused("whom(" + what + ")", -2, "b1;", x -> x.whom(what));
            refused("whom(" + what + "), our BALL, ended, FOULS", -2, "b0;f05;c00;", x -> x.whom(what));
        }
        for (int what = 0; what <= 1; what++) {
            int w = what;
            refused("our BALL " + w, -3, "b0;", x -> x.whom(w));
            refused("ended " + w, -3, "b1;c00;", x -> x.whom(w));
            refused("ended by TARGET " + w, -3, "b1;w1;l-3;", x -> x.whom(w));
            refused("5 FOULS " + w, -3, "b1;f05;", x -> x.whom(w));
            NineteenSecondsLeft none = game("p0s999;b1;");
            due("none of them " + w, none.whom(w), -3);
            due("counted " + w, none.count(13), 1);
            due("nobody " + w, game("b1;").whom(w), -3);
            holds("else not " + w, game(TEXT + "b1;f04;f15;").whom(w) >= 0);
        }
    }

    private void freed() {
        sentence("FREED. -1; -3 he is theirs, it has ended.");
        for (int p : WRONG_PLAYERS) {
            refused("freed(" + p + ")", -1, x -> x.freed(p));
            refused("freed(" + p + "), ended", -1, "c00;", x -> x.freed(p));
        }
        refused("he is theirs", -3, x -> x.freed(3));
        refused("ended", -3, "c00;", x -> x.freed(0));
        refused("ended by TARGET", -3, "w1;l+3;", x -> x.freed(0));
        refused("both", -3, "c00;", x -> x.freed(1));
        holds("else not", game(TEXT + "b1;f05;o00;").freed(4) >= 0);
    }

    private void pairs() {
        sentence("DOUBLE. -1 either (one twice, too); -3 either is theirs.");
        for (int p : WRONG_PLAYERS) {
            refused("doubled(" + p + ", 0)", -1, x -> x.doubled(p, 0));
            refused("doubled(0, " + p + ")", -1, x -> x.doubled(0, p));
            refused("doubled(1, " + p + ")", -1, x -> x.doubled(1, p));
            refused("doubled(" + p + ", 1)", -1, x -> x.doubled(p, 1));
            refused("doubled(" + p + ", " + p + ")", -1, x -> x.doubled(p, p));
        }
        refused("one twice", -1, x -> x.doubled(4, 4));
        refused("one of theirs twice", -1, x -> x.doubled(1, 1));
        refused("the free one is theirs", -3, x -> x.doubled(1, 0));
        refused("the guarded one is theirs", -3, x -> x.doubled(0, 1));
        refused("both are theirs", -3, x -> x.doubled(1, 3));
        holds("else not", game(TEXT + "b1;c00;").doubled(0, 4) >= 0);
        sentence("HOW GOOD; -9. -1; -3 likewise.");
        for (int p : WRONG_PLAYERS) {
            refused("howGood(" + p + ", 0)", -1, x -> x.howGood(p, 0));
            refused("howGood(0, " + p + ")", -1, x -> x.howGood(0, p));
            refused("howGood(1, " + p + ")", -1, x -> x.howGood(1, p));
            refused("howGood(" + p + ", 1)", -1, x -> x.howGood(p, 1));
        }
        refused("HOW GOOD: one twice", -1, x -> x.howGood(4, 4));
        refused("HOW GOOD: one of theirs twice", -1, x -> x.howGood(1, 1));
        refused("HOW GOOD: the free one is theirs", -3, x -> x.howGood(1, 0));
        refused("HOW GOOD: the guarded one is theirs", -3, x -> x.howGood(0, 1));
        refused("HOW GOOD: both are theirs", -3, x -> x.howGood(1, 3));
        due("else not", game(TEXT + "b1;c00;").howGood(0, 4), 0);
    }

    private void law() {
        sentence("VALUE by a LAW. -2.");
        for (int law : new int[] {-1, 4, MIN, MAX}) {
            refused("byLaw(" + law + ")", -2, x -> x.byLaw(law));
        }
    }

    private void handAndLots() {
        sentence("HAND (bits). -4; -6 24.");
        refused("hand(-1)", -4, x -> x.hand(-1));
        refused("hand(MIN)", -4, x -> x.hand(MIN));
        refused("hand(25)", -6, x -> x.hand(25));
        refused("hand(MAX)", -6, x -> x.hand(MAX));
        sentence("LOTS. -4; -6 30.");
        refused("lots(0, 5)", -4, x -> x.lots(0, 5));
        refused("lots(-1, 5)", -4, x -> x.lots(-1, 5));
        refused("lots(MIN, 5)", -4, x -> x.lots(MIN, 5));
        refused("lots(31, 5)", -6, x -> x.lots(31, 5));
        refused("lots(MAX, 5)", -6, x -> x.lots(MAX, 5));
    }

    private void restore() {
        sentence("ON from it: SECONDS. -3 there is none.");
        NineteenSecondsLeft x = game(TEXT);
        due("none", x.restore(), -3);
        due("none, once more", x.restore(), -3);
        due("counted", x.count(13), 2);
        due("PLAYERS as they were", x.count(0), 5);
        due("SECONDS as they were", x.count(2), 11);
        x.image();
        due("one", x.restore(), 11);
        due("counted no more", x.count(13), 2);
    }

    private void farAbove() {
        sentence("Of point(), twoOrThree(), rebound(), call() REFUSALS are 2000000000 less them (-1 is "
                + "told as 2000000001).");
        int state = FAR_ABOVE + 3;
        refused("twoOrThree(), not our BALL", state, "b1;", x -> x.twoOrThree());
        refused("twoOrThree(), ended", state, "c00;", x -> x.twoOrThree());
        refused("twoOrThree(), ended by TARGET", state, "w1;l-3;", x -> x.twoOrThree());
        refused("call(), their BALL", state, "b1;", x -> x.call());
        refused("call(), no CALLS", state, "o00;", x -> x.call());
        sentence("Refused as told: -3 not our BALL, it has ended, none of us.");
        NineteenSecondsLeft none = game("p1s999;");
        due("none of us", none.twoOrThree(), state);
        due("counted", none.count(13), 1);
        due("nobody", new NineteenSecondsLeft().twoOrThree(), state);
        holds("else not", Math.abs(game(TEXT + "c01;w1;l+2;").twoOrThree()) <= 1000000000);
        sentence("CALL. Refused as told: -3.");
        holds("ended is no REFUSAL", game(TEXT + "c00;").call() == 0);
        holds("nobody is no REFUSAL", new NineteenSecondsLeft().call() == 0);
    }

    private void neverRefused() {
        sentence("nothing changes but how many there were");
        NineteenSecondsLeft x = new NineteenSecondsLeft();
        Call[] calls = {y -> y.hall(), y -> y.here(), y -> y.point(), y -> y.rebound(), y -> y.on(),
            y -> y.fairest(), y -> y.judge(), y -> y.count(99), y -> y.count(-1), y -> y.best(0, 0, 0),
            y -> y.from(0, 0), y -> y.image()};
        int[] answers = {-1000, 0, 500000000, 0, -9, 0, -9, -9, -9, -9, 0, 19};
        for (int i = 0; i < calls.length; i++) {
            due("answers that are no REFUSALS, " + i, calls[i].of(x), answers[i]);
        }
        for (int number = 11; number <= 16; number++) {
            due("none is counted, " + number, x.count(number), 0);
        }
        due("-5 is never answered", x.count(15), 0);
    }
}
