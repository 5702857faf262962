import java.util.ArrayList;
import java.util.Arrays;
import java.util.HashMap;
import java.util.List;
import java.util.Map;

/**
 * The document once more, written from its words in another way than the program: state by state
 * from here on, by recursion and with a memory, rules as small objects. For tests alone.
 */
final class Oracle {
    record Player(int side, char kind, int near, int far, int free) {
        int[] tenths(int s) {
            int[] told = {near, far, free};
            int[] hot = {cap(near + 1), cap(far + 1), cap(free + 1)};
            int[] tired = {Math.max(0, near - 1), Math.max(0, far - 1), Math.max(0, free - 1)};
            switch (kind) {
                case 's': return told;
                case 'h': return hot;
                case 't': return tired;
                case 'b': return new int[] {cap(near + 2), 0, free};
                case 'o': return s > 9 ? told : tired;
                case 'k': return new int[] {hot[0], hot[1] / 2, free};
                default: throw new IllegalStateException();
            }
        }
    }

    static int cap(int t) {
        return Math.min(9, t);
    }

    /** What VALUE hangs on, but for the state. */
    static final class Game {
        final List<Player> players = new ArrayList<>();
        int rebound = 3;
        int law = 0;
        int draw = 5;
        int plus = -1; // who hits 1 tenth more by a double
        int half = -1; // who is guarded by two
        boolean allPlus = false; // ours behind a time out
        int away = -1; // who is not there
        final Map<Integer, Long> memory = new HashMap<>();

        Game copy() {
            Game g = new Game();
            g.players.addAll(players);
            g.rebound = rebound;
            g.law = law;
            g.draw = draw;
            return g;
        }

        int tenths(int p, int choice, int s) {
            int t = players.get(p).tenths(s)[choice == 0 ? 0 : 1];
            if (p == plus || allPlus && players.get(p).side == 0) {
                t = cap(t + 1);
            }
            if (p == half) {
                t /= 2;
            }
            return choice == 2 ? t / 2 : t;
        }

        boolean ended(int s, int lead) {
            return s == 0 || law == 1 && (lead >= 3 || lead <= -3);
        }

        long end(int lead) {
            return lead > 0 ? 1000000000L : lead == 0 ? draw * 100000000L : 0L;
        }

        static int hold(int lead) {
            return lead > 6 ? 6 : lead < -6 ? -6 : lead;
        }

        int leadBehindHit(int choice, int lead, int ball) {
            int points = choice == 0 ? 2 : law == 3 ? 2 : 3;
            return hold(lead + (ball == 0 ? points : -points));
        }

        int secondsBehindHit(int choice, int s) {
            return law == 2 ? s - 1 : s - new int[] {4, 3, 1}[choice];
        }

        long shot(int p, int choice, int s, int lead, int ball) {
            int takes = new int[] {4, 3, 1}[choice];
            if (takes > s) {
                return end(lead);
            }
            int t = tenths(p, choice, s);
            long hit = value(secondsBehindHit(choice, s), leadBehindHit(choice, lead, ball), 1 - ball);
            long again = value(s - takes, lead, ball);
            long lost = value(s - takes, lead, 1 - ball);
            long miss = (rebound * again + (10 - rebound) * lost) / 10;
            return (t * hit + (10 - t) * miss) / 10;
        }

        long value(int s, int lead, int ball) {
            int key = (s * 13 + lead + 6) * 2 + ball;
            Long known = memory.get(key);
            if (known == null) {
                known = search(s, lead, ball)[0];
                memory.put(key, known);
            }
            return known;
        }

        /** VALUE and BEST. */
        long[] search(int s, int lead, int ball) {
            if (ended(s, lead)) {
                return new long[] {end(lead), -9};
            }
            List<long[]> all = new ArrayList<>();
            for (int p = 0; p < players.size(); p++) {
                if (players.get(p).side == ball && p != away) {
                    for (int c = 0; c < 3; c++) {
                        all.add(new long[] {shot(p, c, s, lead, ball), 10 * p + c});
                    }
                }
            }
            all.add(new long[] {value(Math.max(0, s - 5), lead, ball), 93});
            long[] best = all.get(0);
            for (long[] one : all) {
                if (ball == 0 && one[0] > best[0] || ball == 1 && one[0] < best[0]) {
                    best = one;
                }
            }
            return best;
        }
    }

    private Game game = new Game();
    private int seconds = 19;
    private int lead = -1;
    private int ball = 0;
    private int[] fouls = {0, 0};
    private int[] calls = {1, 1};
    private Oracle image = null;
    private StringBuilder text = new StringBuilder();
    private List<Integer> row = new ArrayList<>();
    private final int[] refusals = new int[7];

    private int no(int number) {
        refusals[-number]++;
        return number;
    }

    private static int beyond(int v, int most) {
        return v < 0 ? -4 : v > most ? -6 : 0;
    }

    int letter(int c) {
        if (c < 0) {
            return no(-4);
        }
        if (c > 255 || text.length() == 96) {
            return no(-6);
        }
        text.append((char) c);
        return text.length();
    }

    private static String form(char c) {
        switch (c) {
            case 'p': return "p#?###;";
            case 'c': return "c##;";
            case 'l': return "l!#;";
            case 'b': return "b#;";
            case 'f': return "f##;";
            case 'o': return "o##;";
            case 'r': return "r#;";
            case 'w': return "w#;";
            case 'd': return "d#;";
            default: return null;
        }
    }

    private static boolean goes(char part, char c) {
        String signs = part == '#' ? "0123456789" : part == '?' ? "shtbok" : part == '!' ? "+-" : "" + part;
        return signs.indexOf(c) >= 0;
    }

    int hall() {
        String t = text.toString();
        text = new StringBuilder();
        List<Integer> begins = new ArrayList<>();
        int i = 0;
        do {
            String form = i < t.length() ? form(t.charAt(i)) : null;
            if (form == null) {
                return -1000 - i;
            }
            begins.add(i);
            for (int j = 0; j < form.length(); j++) {
                if (i + j >= t.length() || !goes(form.charAt(j), t.charAt(i + j))) {
                    return -1000 - i - j;
                }
            }
            i += form.length();
        } while (i < t.length());
        Oracle draft = new Oracle();
        draft.take(this);
        for (int b : begins) {
            if (!draft.say(t.substring(b))) {
                return -2000 - b;
            }
        }
        take(draft);
        return begins.size();
    }

    private boolean say(String t) {
        int a = t.charAt(1) - '0';
        int b = t.charAt(2) - '0';
        switch (t.charAt(0)) {
            case 'p':
                if (a > 1 || game.players.size() == 6) {
                    return false;
                }
                game.players.add(new Player(a, t.charAt(2), t.charAt(3) - '0', t.charAt(4) - '0', t.charAt(5) - '0'));
                return true;
            case 'c':
                seconds = 10 * a + b;
                return seconds <= 24;
            case 'l':
                lead = t.charAt(1) == '+' ? b : -b;
                return b <= 6;
            case 'b':
                ball = a;
                return a <= 1;
            case 'f':
                if (a > 1 || b > 5) {
                    return false;
                }
                fouls[a] = b;
                return true;
            case 'o':
                if (a > 1 || b > 2) {
                    return false;
                }
                calls[a] = b;
                return true;
            case 'r':
                game.rebound = a;
                return true;
            case 'w':
                game.law = a;
                return a <= 3;
            default:
                game.draw = a;
                return true;
        }
    }

    /** All that an image holds. */
    private void take(Oracle o) {
        game = o.game.copy();
        seconds = o.seconds;
        lead = o.lead;
        ball = o.ball;
        fouls = o.fouls.clone();
        calls = o.calls.clone();
    }

    private boolean nobody(int p) {
        return p < 0 || p >= game.players.size();
    }

    private int side(int p) {
        return game.players.get(p).side;
    }

    private int ofSide(int side) {
        return (int) game.players.stream().filter(p -> p.side == side).count();
    }

    int player(int p, int what) {
        if (nobody(p)) {
            return no(-1);
        }
        Player q = game.players.get(p);
        switch (what) {
            case 0: return q.side;
            case 1: return "shtbok".indexOf(q.kind);
            case 2: return q.near;
            case 3: return q.far;
            case 4: return q.free;
            default: return no(-2);
        }
    }

    int hits(int p, int what, int s) {
        if (nobody(p)) {
            return no(-1);
        }
        if (what < 0 || what > 2) {
            return no(-2);
        }
        int fault = beyond(s, 24);
        return fault != 0 ? no(fault) : game.players.get(p).tenths(s)[what];
    }

    int set(int what, int v) {
        int[] most = {24, 12, 1, 5, 5, 2, 2, 9, 3, 9};
        if (what < 0 || what > 9) {
            return no(-2);
        }
        int fault = beyond(v, most[what]);
        if (fault != 0) {
            return no(fault);
        }
        game = game.copy();
        int was;
        switch (what) {
            case 0: was = seconds; seconds = v; return was;
            case 1: was = lead + 6; lead = v - 6; return was;
            case 2: was = ball; ball = v; return was;
            case 3: was = fouls[0]; fouls[0] = v; return was;
            case 4: was = fouls[1]; fouls[1] = v; return was;
            case 5: was = calls[0]; calls[0] = v; return was;
            case 6: was = calls[1]; calls[1] = v; return was;
            case 7: was = game.rebound; game.rebound = v; return was;
            case 8: was = game.law; game.law = v; return was;
            default: was = game.draw; game.draw = v; return was;
        }
    }

    private int value(Game g) {
        return (int) g.value(seconds, lead, ball);
    }

    int here() {
        return value(game);
    }

    private static int beyondState(int s, int l, int b) {
        int[] faults = {beyond(s, 24), beyond(l, 12), beyond(b, 1)};
        Arrays.sort(faults);
        return faults[0] == 0 ? 0 : s < 0 || l < 0 || b < 0 ? -4 : -6;
    }

    int of(int s, int l, int b) {
        int fault = beyondState(s, l, b);
        return fault != 0 ? no(fault) : (int) game.value(s, l - 6, b);
    }

    int best(int s, int l, int b) {
        int fault = beyondState(s, l, b);
        return fault != 0 ? no(fault) : (int) game.search(s, l - 6, b)[1];
    }

    int from(int l, int b) {
        int fault = beyondState(0, l, b);
        if (fault != 0) {
            return no(fault);
        }
        int answer = 0;
        for (int s = 24; s >= 1; s--) {
            boolean all = true;
            for (int below = s; below >= 1; below--) {
                long best = game.search(below, l - 6, b)[1];
                all &= best != 93 && best != -9;
            }
            answer = Math.max(answer, all ? s : 0);
        }
        return answer;
    }

    int point() {
        return lead == 6 ? 0 : (int) (game.value(seconds, lead + 1, ball) - here());
    }

    private long bestBy(int choice) {
        long best = Long.MIN_VALUE;
        for (int p = 0; p < game.players.size(); p++) {
            if (side(p) == 0) {
                best = Math.max(best, game.shot(p, choice, seconds, lead, 0));
            }
        }
        return best;
    }

    int twoOrThree() {
        if (ball != 0 || game.ended(seconds, lead) || ofSide(0) == 0) {
            return 2000000000 - no(-3);
        }
        return (int) (bestBy(0) - bestBy(1));
    }

    int rebound() {
        Game most = game.copy();
        most.rebound = 9;
        Game least = game.copy();
        least.rebound = 0;
        return value(most) - value(least);
    }

    /** Two free ones told as chances: by a hundred, the first one cut behind the second. */
    private long free(int p, int s, int sign, int then, int ballThen) {
        int t = game.players.get(p).tenths(s)[2];
        long[] behindFirst = new long[2];
        for (int first = 0; first < 2; first++) {
            int l1 = Game.hold(lead + first * sign);
            long hit = game.value(then, Game.hold(l1 + sign), ballThen);
            long miss = game.value(then, l1, ballThen);
            behindFirst[first] = (t * hit + (10 - t) * miss) / 10;
        }
        return (t * behindFirst[1] + (10 - t) * behindFirst[0]) / 10;
    }

    int foul(int p) {
        if (nobody(p)) {
            return no(-1);
        }
        if (ball != 1 || game.ended(seconds, lead) || side(p) == 0 || fouls[0] >= 5) {
            return no(-3);
        }
        return (int) free(p, seconds, -1, seconds - 1, 0);
    }

    int whom(int what) {
        if (what != 0 && what != 1) {
            return no(-2);
        }
        if (ball != 1 || game.ended(seconds, lead) || fouls[0] >= 5 || ofSide(1) == 0) {
            return no(-3);
        }
        int whom = -1;
        long best = -1;
        for (int p = 0; p < game.players.size(); p++) {
            if (side(p) == 1) {
                long v = free(p, seconds, -1, seconds - 1, 0);
                if (v > best) {
                    best = v;
                    whom = p;
                }
            }
        }
        return what == 0 ? whom : best > here() ? 1 : 0;
    }

    int freed(int p) {
        if (nobody(p)) {
            return no(-1);
        }
        if (side(p) == 1 || game.ended(seconds, lead)) {
            return no(-3);
        }
        return (int) free(p, seconds, 1, seconds, 1);
    }

    private int beyondTwo(int free, int guarded) {
        if (nobody(free) || nobody(guarded) || free == guarded) {
            return -1;
        }
        return side(free) == 1 || side(guarded) == 1 ? -3 : 0;
    }

    int doubled(int free, int guarded) {
        int fault = beyondTwo(free, guarded);
        if (fault != 0) {
            return no(fault);
        }
        Game g = game.copy();
        g.plus = free;
        g.half = guarded;
        return value(g);
    }

    int howGood(int free, int guarded) {
        int fault = beyondTwo(free, guarded);
        if (fault != 0) {
            return no(fault);
        }
        for (int near = 0; near < 10; near++) {
            Game g = game.copy();
            g.plus = free;
            g.half = guarded;
            Player p = g.players.get(free);
            g.players.set(free, new Player(p.side, p.kind, near, p.far, p.free));
            if (value(g) >= here()) {
                return near;
            }
        }
        return -9;
    }

    int call() {
        if (calls[0] == 0 || ball == 1) {
            return 2000000000 - no(-3);
        }
        Game g = game.copy();
        g.allPlus = true;
        return value(g) - here();
    }

    int on() {
        if (ofSide(0) < 2) {
            return -9;
        }
        int who = -1;
        int best = -1;
        for (int p = 0; p < game.players.size(); p++) {
            if (side(p) == 0) {
                Game g = game.copy();
                g.away = p;
                if (value(g) > best) {
                    best = value(g);
                    who = p;
                }
            }
        }
        return who;
    }

    int byLaw(int law) {
        if (law < 0 || law > 3) {
            return no(-2);
        }
        Game g = game.copy();
        g.law = law;
        return value(g);
    }

    int fairest() {
        int best = 0;
        for (int law = 3; law >= 0; law--) {
            best = Math.abs(byLaw(law) - 500000000) <= Math.abs(byLaw(best) - 500000000) ? law : best;
        }
        for (int law = 0; law < best; law++) {
            if (Math.abs(byLaw(law) - 500000000) == Math.abs(byLaw(best) - 500000000)) {
                return law;
            }
        }
        return best;
    }

    int hand(int s) {
        int fault = beyond(s, 24);
        return fault != 0 ? no(fault) : (s >= 4 ? 1 : 0) + (s >= 3 ? 2 : 0) + (s >= 1 ? 4 : 0);
    }

    int row(int v) {
        int fault = beyond(v, 9);
        if (fault == 0 && row.size() == 20) {
            fault = -6;
        }
        if (fault != 0) {
            return no(fault);
        }
        row.add(v);
        return row.size();
    }

    int judge() {
        List<Integer> r = row;
        row = new ArrayList<>();
        int s = seconds;
        int b = ball;
        for (int i = 0; i < r.size(); i += 2) {
            if (i == r.size() - 1 || game.ended(s, lead)) {
                return i;
            }
            int c = r.get(i + 1);
            if (c != 3 && (nobody(r.get(i)) || side(r.get(i)) != b)) {
                return i;
            }
            if (c > 3) {
                return i + 1;
            }
            s = Math.max(0, s - new int[] {4, 3, 1, 5}[c]);
            b = c == 3 ? b : 1 - b;
        }
        return -9;
    }

    private int z;

    private int draw() {
        z = z * 1664525 + 1013904223;
        return (z & Integer.MAX_VALUE) / 256 % 10;
    }

    int lots(int n, int seed) {
        if (n < 1) {
            return no(-4);
        }
        if (n > 30) {
            return no(-6);
        }
        z = seed;
        int wins = 0;
        int draws = 0;
        for (int i = 0; i < n; i++) {
            int l = oneEnd();
            wins += l > 0 ? 1 : 0;
            draws += l == 0 ? 1 : 0;
        }
        return 100 * wins + draws;
    }

    private int oneEnd() {
        int s = seconds;
        int l = lead;
        int b = ball;
        while (!game.ended(s, l)) {
            int best = (int) game.search(s, l, b)[1];
            int c = best % 10;
            if (best == 93) {
                s = Math.max(0, s - 5);
            } else if (new int[] {4, 3, 1}[c] > s) {
                return l;
            } else if (draw() < game.tenths(best / 10, c, s)) {
                s = game.secondsBehindHit(c, s);
                l = game.leadBehindHit(c, l, b);
                b = 1 - b;
            } else {
                s -= new int[] {4, 3, 1}[c];
                if (draw() >= game.rebound) {
                    b = 1 - b;
                }
            }
        }
        return l;
    }

    int image() {
        image = new Oracle();
        image.take(this);
        return seconds;
    }

    int restore() {
        if (image == null) {
            return no(-3);
        }
        take(image);
        return seconds;
    }

    int count(int what) {
        switch (what) {
            case 0: return game.players.size();
            case 1: return ofSide(0);
            case 2: return seconds;
            case 3: return lead + 6;
            case 4: return ball;
            case 5: return game.law;
            case 6: return row.size();
            case 7: return text.length();
            case 11: case 12: case 13: case 14: case 15: case 16: return refusals[what - 10];
            default: return -9;
        }
    }
}
