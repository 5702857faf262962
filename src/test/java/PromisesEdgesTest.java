import java.util.ArrayList;
import java.util.List;

/**
 * The edges that Promise 1 to Promise 29 name, and the words of the Terms behind them: least and
 * greatest numbers, empty and full, ties, wrap-around. Refused calls stand in RefusalsTest.
 */
public final class PromisesEdgesTest extends Checks {
    private static final int MIN = Integer.MIN_VALUE;
    private static final int MAX = Integer.MAX_VALUE;
    private static final int WIN = 1000000000;

    public static void main(String[] args) {
        PromisesEdgesTest test = new PromisesEdgesTest();
        test.anew();
        test.letters();
        test.halls();
        test.playersAndHits();
        test.sets();
        test.here();
        test.of();
        test.best();
        test.from();
        test.point();
        test.twoOrThree();
        test.rebound();
        test.foul();
        test.whom();
        test.freed();
        test.doubled();
        test.howGood();
        test.call();
        test.on();
        test.laws();
        test.hand();
        test.row();
        test.judgedPlaces();
        test.judgedEnds();
        test.lots();
        test.seeds();
        test.images();
        test.counts();
        test.end();
    }

    private void anew() {
        sentence("`NineteenSecondsLeft()`: Nobody; 19 SECONDS, one behind, our BALL.");
        NineteenSecondsLeft x = new NineteenSecondsLeft();
        due("nobody", x.count(0), 0);
        due("none of ours", x.count(1), 0);
        due("SECONDS", x.count(2), 19);
        due("one behind", x.count(3), 5);
        due("our BALL", x.count(4), 0);
        due("no LAW", x.count(5), 0);
        due("no ROW", x.count(6), 0);
        due("no letters", x.count(7), 0);
        due("one behind, nobody scores", x.here(), 0);
        // One object is not another.
        NineteenSecondsLeft y = game("p0s999;c03;l+2;b1;w3;");
        y.image();
        y.row(1);
        y.letter('p');
        y.player(9, 9);
        NineteenSecondsLeft z = new NineteenSecondsLeft();
        int[] counts = {0, 0, 19, 5, 0, 0, 0, 0};
        for (int what = 0; what < counts.length; what++) {
            due("another object, " + what, z.count(what), counts[what]);
            due("refusals of it", z.count(what + 10), what == 0 || what == 7 ? -9 : 0);
        }
        due("it has no image", z.restore(), -3);
    }

    private void letters() {
        sentence("A letter (0 .. 255) comes: how many there are.");
        NineteenSecondsLeft x = new NineteenSecondsLeft();
        due("the least", x.letter(0), 1);
        due("the greatest", x.letter(255), 2);
        due("a letter that no HALL has comes, too", x.letter('!'), 3);
        due("as many", x.count(7), 3);
        for (int i = 4; i <= 96; i++) {
            due("letter " + i, x.letter(i), i);
        }
        due("full", x.count(7), 96);
        due("no room", x.letter(1), -6);
        due("full still", x.count(7), 96);
        due("the first letter of them is told", x.hall(), -1000);
        due("empty then", x.count(7), 0);
        due("room then", x.letter(1), 1);
    }

    private void halls() {
        sentence("The letters become a HALL, and are no more (with a FAULT neither)");
        NineteenSecondsLeft x = new NineteenSecondsLeft();
        due("a HALL", tell(x, "c05;"), 1);
        due("no letters", x.count(7), 0);
        due("a FAULT of form", tell(x, "c0"), -1002);
        due("no letters then", x.count(7), 0);
        due("a FAULT of range", tell(x, "c33;"), -2000);
        due("no letters there", x.count(7), 0);
        due("a HALL behind FAULTS", tell(x, "c06;"), 1);
        due("it has come", x.count(2), 6);
        due("empty", x.hall(), -1000);
        sentence("how many STATEMENTS; the FAULT (nothing is counted).");
        due("one", tell(x, "b0;"), 1);
        due("full of the shortest", tell(x, "b0;".repeat(32)), 32);
        for (String text : new String[] {"", "x", "c25;", "p0s000;".repeat(7), "b0;".repeat(31) + "b"}) {
            due("a FAULT with " + text, tell(x, text) < 0 ? 1 : 0, 1);
        }
        for (int number = 11; number <= 16; number++) {
            due("refusals " + number, x.count(number), 0);
        }
    }

    private void playersAndHits() {
        sentence("Of a PLAYER: 0 SIDE, 1 KIND (0 s, 1 h, 2 t, 3 b, 4 o, 5 k), 2 NEAR, 3 FAR, 4 FREE as told.");
        String kinds = "shtbok";
        for (int kind = 0; kind < 6; kind++) {
            NineteenSecondsLeft x = game("p0" + kinds.charAt(kind) + "090;p1" + kinds.charAt(kind) + "909;");
            int[] least = {0, kind, 0, 9, 0};
            int[] greatest = {1, kind, 9, 0, 9};
            for (int what = 0; what <= 4; what++) {
                due("the first, " + what, x.player(0, what), least[what]);
                due("the last, " + what, x.player(1, what), greatest[what]);
            }
            x.set(0, 0);
            due("as told in whatever SECONDS", x.player(1, 2), 9);
        }
        sentence("Tenths by which he hits from NEAR (what 0), FAR (1), a FREE one (2) in SECONDS (0 .. 24).");
        NineteenSecondsLeft x = game("p0o123;p0o123;p0o123;p0o123;p0o123;p1o987;");
        for (int what = 0; what <= 2; what++) {
            due("0 SECONDS", x.hits(5, what, 0), 8 - what);
            due("9 SECONDS", x.hits(5, what, 9), 8 - what);
            due("10 SECONDS", x.hits(5, what, 10), 9 - what);
            due("24 SECONDS", x.hits(5, what, 24), 9 - what);
            due("24 SECONDS, the first", x.hits(0, what, 24), 1 + what);
        }
        x.set(0, 3);
        due("told SECONDS count", x.hits(0, 0, 10), 1);
    }

    private void sets() {
        sentence("becomes v: what it was.");
        int[] most = {24, 12, 1, 5, 5, 2, 2, 9, 3, 9};
        NineteenSecondsLeft x = new NineteenSecondsLeft();
        for (int what = 0; what < most.length; what++) {
            x.set(what, 0);
            for (int v = 1; v <= most[what]; v++) {
                due(what + " becomes " + v, x.set(what, v), v - 1);
            }
            due(what + " was the greatest", x.set(what, most[what]), most[what]);
        }
        for (int what = 0; what < most.length; what++) {
            due(what + " is its own alone", x.set(what, 0), most[what]);
        }
        int[] counts = {0, 0, 0, 0, 0, 0};
        for (int what = 0; what < counts.length; what++) {
            due("count " + what, x.count(what), counts[what]);
        }
    }

    private void here() {
        sentence("HERE: VALUE of the STATE as it is.");
        NineteenSecondsLeft x = game("p0s111;p1k222;p0o333;p1b444;r4;d3;");
        int[] seconds = {0, 1, 9, 10, 24};
        for (int s : seconds) {
            for (int lead = 0; lead <= 12; lead++) {
                for (int ball = 0; ball <= 1; ball++) {
                    x.set(0, s);
                    x.set(1, lead);
                    x.set(2, ball);
                    due(s + " " + lead + " " + ball, x.here(), new Oracled(x).value(s, lead, ball));
                    if (lead == 0 || lead == 12) {
                        due("6 ahead, 6 behind", x.here(), lead == 0 ? 0 : WIN);
                    }
                    x = fewer(x, s, lead);
                }
            }
        }
    }

    /** An object answers 512 calls: a new one from time to time. */
    private static NineteenSecondsLeft fewer(NineteenSecondsLeft x, int s, int lead) {
        return lead % 5 == 4 ? game("p0s111;p1k222;p0o333;p1b444;r4;d3;") : x;
    }

    /** VALUE once more, by what hits() and player() of a game with REBOUND 4, DRAW 3 tell. */
    private static final class Oracled {
        private final Oracle.Game game = new Oracle.Game();

        Oracled(NineteenSecondsLeft x) {
            for (int p = 0; p < x.count(0); p++) {
                game.players.add(new Oracle.Player(x.player(p, 0), "shtbok".charAt(x.player(p, 1)),
                        x.player(p, 2), x.player(p, 3), x.player(p, 4)));
            }
            game.rebound = 4;
            game.draw = 3;
        }

        long value(int s, int lead, int ball) {
            return game.value(s, lead - 6, ball);
        }
    }

    private void of() {
        sentence("OF (lead: LEAD and 6).");
        NineteenSecondsLeft x = game("p0s999;p1s999;l+1;b1;c02;d0;");
        due("the least of all", x.of(0, 0, 0), 0);
        due("0 SECONDS, LEAD 6", x.of(0, 12, 1), WIN);
        due("24 SECONDS, LEAD -6", x.of(24, 0, 1), 0);
        due("the greatest of all", x.of(24, 12, 1), WIN);
        due("LEAD 0 is told as 6", x.of(0, 6, 0), 0);
        due("LEAD 1 is told as 7", x.of(0, 7, 0), WIN);
        due("as HERE", x.of(2, 7, 1), x.here());
        // Whichever is asked first: rows of more SECONDS stand on those of fewer.
        NineteenSecondsLeft up = game("p0s573;p1k464;p0h385;");
        NineteenSecondsLeft down = game("p0s573;p1k464;p0h385;");
        long[] values = new long[25];
        for (int s = 0; s <= 24; s++) {
            values[s] = up.of(s, 5, 0);
        }
        for (int s = 24; s >= 0; s--) {
            due("from above, " + s, down.of(s, 5, 0), values[s]);
        }
    }

    private void best() {
        sentence("BEST: PLAYER and CHOICE there (10 times the PLAYER and the CHOICE; 93 HOLD); -9 it has ended.");
        NineteenSecondsLeft x = game("p1s000;p1s000;p1s000;p1s000;p1s000;p0s090;");
        due("the last PLAYER, QUICK", x.best(1, 6, 0), 52);
        due("the last PLAYER, FAR", x.best(3, 4, 0), 51);
        due("the last PLAYER, NEAR", x.best(1, 12, 0), 50);
        due("the first PLAYER, NEAR", x.best(1, 12, 1), 0);
        due("0 SECONDS", x.best(0, 6, 0), -9);
        due("0 SECONDS, LEAD -6", x.best(0, 0, 1), -9);
        due("24 SECONDS, LEAD 6", x.best(24, 12, 1), 0);
        due("24 SECONDS, LEAD -6", x.best(24, 0, 0), 50);
        NineteenSecondsLeft none = game("p0s999;");
        due("HOLD: none of theirs", none.best(24, 12, 1), 93);
        due("HOLD: none of theirs, 1 SECOND", none.best(1, 0, 1), 93);
        due("HOLD: nobody", new NineteenSecondsLeft().best(24, 0, 0), 93);
        x.set(8, 1);
        due("ended by TARGET, 3 ahead", x.best(1, 9, 0), -9);
        due("ended by TARGET, 3 behind", x.best(24, 3, 1), -9);
        holds("not ended 2 ahead", x.best(1, 8, 0) != -9);
        holds("not ended 2 behind", x.best(24, 4, 1) != -9);
    }

    private void from() {
        sentence("(the greatest such that at it and all below, to 1, it is some other CHOICE; LEAD, BALL told): 0 none.");
        NineteenSecondsLeft all = game("p0s999;p1s999;");
        due("24: always a shot, LEAD -6", all.from(0, 0), 24);
        due("24: always a shot, LEAD 6", all.from(12, 1), 24);
        due("none of that side", game("p0s999;").from(6, 1), 0);
        due("nobody", new NineteenSecondsLeft().from(12, 0), 0);
        // 1 ahead with the BALL: NEAR to 4 SECONDS ends it (all alike); in 5 it leaves them one.
        due("4", game("p0s000;p1s090;r0;").from(7, 0), 4);
        // REBOUND 0, LEAD 0, a draw worth nothing: he shoots to the last SECOND, and HOLDS from 5 on
        // where a shot leaves them time.
        NineteenSecondsLeft x = game("p0s440;p1s990;r0;d0;");
        int from = x.from(6, 0);
        holds("at it and below no HOLD", noHold(x, from, 6, 0));
        due("HOLD one above", x.best(from + 1, 6, 0), 93);
        x.set(8, 1);
        due("ended by TARGET", x.from(9, 0), 0);
        due("ended by TARGET, 3 behind", x.from(3, 1), 0);
        holds("not ended by TARGET", x.from(8, 0) > 0);
    }

    private static boolean noHold(NineteenSecondsLeft x, int seconds, int lead, int ball) {
        boolean none = true;
        for (int s = 1; s <= seconds; s++) {
            none &= x.best(s, lead, ball) != 93;
        }
        return none;
    }

    private void point() {
        sentence("WORTH of a POINT: VALUE with LEAD 1 more less VALUE as it is (LEAD 6: 0).");
        for (int seconds = 0; seconds <= 24; seconds += 24) {
            NineteenSecondsLeft x = game("p0s573;p1k464;d4;");
            x.set(0, seconds);
            for (int lead = 0; lead <= 12; lead++) {
                x.set(1, lead);
                long more = lead == 12 ? x.here() : x.of(seconds, lead + 1, 0);
                due("LEAD and 6 " + lead + " in " + seconds, x.point(), more - x.here());
            }
            due("LEAD 6", x.point(), 0);
        }
        NineteenSecondsLeft lamp = game("c00;l-1;d4;");
        due("to a draw at the lamp", lamp.point(), 400000000);
        lamp.set(1, 6);
        due("to a win at the lamp", lamp.point(), 600000000);
        lamp.set(1, 0);
        due("LEAD -6", lamp.point(), 0);
        // Their QUICK by 4 tenths in the last SECOND: to a draw from 3 ahead, to a loss from 2.
        due("their BALL, 4 ahead", game("p0s090;p1s090;c01;l+3;b1;").point(), 200000000);
        due("their BALL, 3 ahead", game("p0s090;p1s090;c01;l+2;b1;").point(), 200000000);
    }

    private void twoOrThree() {
        sentence("TWO OR THREE: VALUE by NEAR now by the best of our PLAYERS for that, less that by FAR "
                + "by the best for that (may be below 0).");
        NineteenSecondsLeft x = game("p0s910;p0s190;p1s000;r0;d5;");
        x.set(0, 4);
        due("each by another", x.twoOrThree(), 0);
        x.set(1, 4);
        due("below 0: a draw by NEAR", x.twoOrThree(), 450000000 - 900000000);
        x.set(0, 3);
        due("NEAR is too late", x.twoOrThree(), -900000000);
        x.set(0, 2);
        due("both are too late", x.twoOrThree(), 0);
        x.set(0, 1);
        x.set(1, 12);
        due("both are too late, 6 ahead", x.twoOrThree(), 0);
        x.set(1, 0);
        x.set(0, 24);
        due("6 behind", x.twoOrThree(), 0);
        x.set(1, 5);
        x.set(0, 4);
        x.set(8, 1);
        x.set(1, 4);
        due("TARGET is not reached from 2 behind", x.twoOrThree(), 450000000 - 900000000);
    }

    private void rebound() {
        sentence("REBOUND's WORTH: VALUE with REBOUND 9 less that with 0.");
        // QUICK by 1 tenth, twice: (WIN + 9 * (9 * 100000000 / 10)) / 10 less 100000000.
        NineteenSecondsLeft x = game("p0s033;p1s000;l+0;d0;c02;");
        for (int rebound = 0; rebound <= 9; rebound++) {
            x.set(7, rebound);
            due("whatever it is: " + rebound, x.rebound(), 81000000);
        }
        due("it stays", x.set(7, 0), 9);
        due("VALUE by what it is", x.here(), 100000000);
        x.set(0, 0);
        due("at the lamp", x.rebound(), 0);
        // Theirs: 900000000 a draw; 810000000 with 1 SECOND.
        NineteenSecondsLeft y = game("p1s033;l+0;d9;c02;b1;");
        due("theirs: below 0", y.rebound(), mixed(1, 0, mixed(9, 810000000, 900000000)) - 810000000);
        due("nobody", new NineteenSecondsLeft().rebound(), 0);
    }

    private void foul() {
        sentence("1 SECOND goes by, he shoots two FREE ones");
        // They hit 9 of 10; we have nobody, so LEAD stays then.
        NineteenSecondsLeft x = game("p1s009;c01;l+1;b1;d5;");
        // None: 1 ahead; one: a draw; both: 1 behind.
        due("the last SECOND", x.foul(0), mixed(9, mixed(9, 0, 500000000), mixed(9, 500000000, WIN)));
        x.set(0, 24);
        due("24 SECONDS", x.foul(0), mixed(9, mixed(9, 0, 500000000), mixed(9, 500000000, WIN)));
        x.set(1, 8);
        due("a point each: 2 ahead", x.foul(0), mixed(9, mixed(9, 500000000, WIN), mixed(9, WIN, WIN)));
        x.set(1, 9);
        due("3 ahead", x.foul(0), WIN);
        x.set(1, 0);
        due("6 behind", x.foul(0), 0);
        // 2 SECONDS: 1 is left for our QUICK by 4 tenths; none in the last one.
        NineteenSecondsLeft y = game("p1s000;p0s090;c02;l-2;b1;");
        due("1 SECOND is left", y.foul(0), 400000000);
        y.set(0, 1);
        due("no SECOND is left", y.foul(0), 0);
        y.set(0, 4);
        due("3 SECONDS are left: FAR", y.foul(0), 900000000);
        y.set(0, 3);
        due("2 SECONDS are left: QUICK", y.foul(0), mixed(4, WIN, mixed(3, 400000000, 0)));
        sentence("by his FREE tenths in SECONDS as they are ahead of it");
        NineteenSecondsLeft rookie = game("p1o001;c10;l+1;b1;d0;");
        // By 1 tenth: both miss 81 of 100.
        due("10 SECONDS ahead of it", rookie.foul(0), 810000000);
        rookie.set(0, 9);
        due("9 SECONDS ahead of it", rookie.foul(0), WIN);
        sentence("our FOULS must be below 5 (-3)");
        for (int fouls = 0; fouls <= 5; fouls++) {
            rookie.set(3, fouls);
            due(fouls + " FOULS", rookie.foul(0), fouls < 5 ? WIN : -3);
            due(fouls + " FOULS, WHOM", rookie.whom(0), fouls < 5 ? 0 : -3);
        }
        due("FOULS as they were", rookie.set(3, 0), 5);
        rookie.set(4, 5);
        due("theirs do not count", rookie.foul(0), WIN);
    }

    private void whom() {
        sentence("WHOM: the one of them by whom that is greatest, of several the least");
        due("the first alone", game("p1s000;b1;l+1;").whom(0), 0);
        due("the last", game("p0s000;p0s000;p0s000;p1s009;p1s002;p1s001;b1;l+1;").whom(0), 5);
        due("the least of equals", game("p0s000;p1s009;p1s001;p1h000;p1t002;p1s001;b1;l+1;").whom(0), 2);
        due("all alike: far behind", game("p0s000;p1s009;p1s001;b1;l-6;").whom(0), 1);
        sentence("PAYS: 1 if that is more than VALUE as it is; 0.");
        NineteenSecondsLeft x = game("p1s000;b1;l+1;");
        due("WIN both: 0", x.whom(1), 0);
        x.set(1, 5);
        due("nothing both: 0", x.whom(1), 0);
        // Their QUICK by 4 tenths from 1 behind; two FREE ones by 4 tenths: 16 lost, 48 a draw.
        NineteenSecondsLeft y = game("p1s084;c01;l+1;b1;d5;");
        due("VALUE as it is", y.here(), 600000000);
        due("by the FOUL", y.foul(0), 600000000);
        due("as much: 0", y.whom(1), 0);
        y.set(9, 6);
        due("more: 1", y.whom(1), 1);
        y.set(9, 4);
        due("less: 0", y.whom(1), 0);
        // From 2 behind 1 SECOND is left for our QUICK; in the last SECOND none is.
        NineteenSecondsLeft z = game("p1s000;p0s090;c02;l-2;b1;");
        due("1 SECOND is left behind it: 1", z.whom(1), 1);
        z.set(0, 1);
        due("none is left behind it: 0", z.whom(1), 0);
    }

    private void freed() {
        sentence("FREED: a PLAYER of ours shoots two FREE ones so now (no SECOND goes by), the BALL is "
                + "theirs then: VALUE.");
        // QUICK by 4 tenths is theirs in the last SECOND.
        NineteenSecondsLeft x = game("p0s009;p1s090;c01;l-1;d5;");
        long even = 300000000;
        long ahead = 600000000;
        due("1 SECOND", x.freed(0), mixed(9, mixed(9, ahead, even), mixed(9, even, 0)));
        x.set(2, 1);
        due("whoever has the BALL", x.freed(0), mixed(9, mixed(9, ahead, even), mixed(9, even, 0)));
        x.set(1, 12);
        due("LEAD 6", x.freed(0), WIN);
        x.set(1, 0);
        due("LEAD -6", x.freed(0), 0);
        NineteenSecondsLeft rookie = game("p0o001;c10;l-1;d0;");
        due("10 SECONDS", rookie.freed(0), 10000000);
        rookie.set(0, 9);
        due("9 SECONDS", rookie.freed(0), 0);
        rookie.set(0, 24);
        due("24 SECONDS", rookie.freed(0), 10000000);
        due("0 tenths", game("p0s000;l-1;").freed(0), 0);
    }

    private void doubled() {
        sentence("(NEAR, FAR 1 more each by his KIND, 9 at most)");
        // 4 SECONDS from 1 behind: NEAR; 3 from 2 behind: FAR.
        for (int tenths = 0; tenths <= 9; tenths++) {
            int more = Math.min(9, tenths + 1);
            NineteenSecondsLeft near = game("p0s" + tenths + "00;p0s000;c04;l-1;d0;r0;");
            due("free NEAR " + tenths, near.doubled(0, 1), more * 100000000L);
            NineteenSecondsLeft far = game("p0s0" + tenths + "0;p0s000;c03;l-2;d0;r0;");
            due("free FAR " + tenths, far.doubled(0, 1), more * 100000000L);
            far.set(0, 1);
            due("free QUICK " + tenths, far.doubled(0, 1), more / 2 * 100000000L);
        }
        due("free HOT NEAR 9", game("p0h900;p0s000;c04;l-1;d0;r0;").doubled(0, 1), 900000000);
        due("free BIG FAR", game("p0b090;p0s000;c03;l-2;d0;r0;").doubled(0, 1), 100000000);
        due("free TIRED NEAR 0", game("p0t000;p0s000;c04;l-1;d0;r0;").doubled(0, 1), 100000000);
        sentence("guard another one of ours by two (NEAR, FAR half of these by his KIND, cut)");
        for (int tenths = 0; tenths <= 9; tenths++) {
            NineteenSecondsLeft near = game("p0t000;p0s" + tenths + "00;c04;l-1;d0;r0;");
            due("guarded NEAR " + tenths, near.doubled(0, 1), Math.max(1, tenths / 2) * 100000000L);
            NineteenSecondsLeft far = game("p0t000;p0s0" + tenths + "0;c03;l-2;d0;r0;");
            due("guarded FAR " + tenths, far.doubled(0, 1), Math.max(1, tenths / 2) * 100000000L);
            far.set(0, 1);
            due("guarded QUICK " + tenths, far.doubled(0, 1), tenths / 2 / 2 * 100000000L);
        }
        due("guarded HOT NEAR 9", game("p0t000;p0h900;c04;l-1;d0;r0;").doubled(0, 1), 400000000);
        due("guarded COLD FAR 9", game("p0t000;p0k090;c03;l-2;d0;r0;").doubled(0, 1), 200000000);
        NineteenSecondsLeft x = game("p0s500;p1s900;p0s500;p0s300;c04;l-1;");
        due("the others are as they are", x.doubled(3, 0), 500000000);
        x.set(0, 0);
        due("at the lamp", x.doubled(0, 2), 0);
        x.set(0, 4);
        x.set(2, 1);
        x.set(1, 7);
        due("their BALL, theirs as they are", x.doubled(0, 2), 100000000);
        due("all as it was", x.player(0, 2), 5);
    }

    private void howGood() {
        sentence("the least NEAR (0 .. 9; as told, FAR as it is) of him by which DOUBLE is no less than "
                + "VALUE as it is; -9.");
        // VALUE as it is: NEAR of the guarded one, in 4 SECONDS from 1 behind.
        for (int tenths = 0; tenths <= 9; tenths++) {
            NineteenSecondsLeft x = game("p0s000;p0s" + tenths + "00;c04;l-1;d0;r0;");
            due("1 less than " + tenths, x.howGood(0, 1), Math.max(0, tenths - 1));
            NineteenSecondsLeft tired = game("p0t900;p0s" + tenths + "00;c04;l-1;d0;r0;");
            // Of his own 9 he hits 8 as it is.
            due("TIRED", tired.howGood(0, 1), Math.max(8, tenths));
        }
        due("0", game("p0s000;p0s000;").howGood(0, 1), 0);
        due("0 at the lamp", game("p0s000;p0s900;c00;").howGood(0, 1), 0);
        due("9", game("p0t000;p0s900;c04;l-1;d0;r0;").howGood(0, 1), 9);
        // FAR alone is in time: none is good enough.
        due("-9", game("p0s900;p0s090;c03;l-2;d0;r0;").howGood(0, 1), -9);
        due("FAR as it is", game("p0s080;p0s090;c03;l-2;d0;r0;").howGood(0, 1), 0);
        due("a BIG one's 6 is 9 behind 2 and 1 more",
                game("p0b000;p0s900;c04;l-1;d0;r0;").howGood(0, 1), 6);
        NineteenSecondsLeft x = game("p0s300;p0s900;c04;l-1;d0;r0;");
        due("8", x.howGood(0, 1), 8);
        due("NEAR as it was", x.player(0, 2), 3);
        due("-9 is no REFUSAL", x.count(14) + x.count(13) + x.count(11), 0);
    }

    private void call() {
        sentence("CALL: a time out (our CALLS above 0, our BALL): all ours hit NEAR and FAR 1 tenth more "
                + "(by their KINDS, 9 at most) from now on");
        for (int tenths = 0; tenths <= 9; tenths++) {
            long more = tenths < 9 ? 100000000 : 0;
            NineteenSecondsLeft near = game("p1s900;p0s000;p0s" + tenths + "00;c04;l-1;d0;r0;");
            due("NEAR " + tenths, near.call(), more);
            NineteenSecondsLeft far = game("p0s000;p0s0" + tenths + "0;c03;l-2;d0;r0;");
            due("FAR " + tenths, far.call(), more);
        }
        due("a BIG one's NEAR 7", game("p0b700;c04;l-1;d0;r0;").call(), 0);
        due("a HOT one's NEAR 8", game("p0h800;c04;l-1;d0;r0;").call(), 0);
        due("a BIG one's FAR", game("p0b090;c03;l-2;d0;r0;").call(), 100000000);
        NineteenSecondsLeft x = game("p0s500;c04;l-1;d0;r0;");
        for (int calls = 0; calls <= 2; calls++) {
            x.set(5, calls);
            due(calls + " CALLS", x.call(), calls == 0 ? 2000000003 : 100000000);
            due("CALLS as they were", x.set(5, calls), calls);
        }
        x.set(6, 0);
        due("theirs do not count", x.call(), 100000000);
        x.set(0, 0);
        due("at the lamp", x.call(), 0);
        x.set(0, 4);
        x.set(1, 12);
        due("won already", x.call(), 0);
        x.set(2, 1);
        due("their BALL", x.call(), 2000000003);
    }

    private void on() {
        sentence("by whose absence VALUE is greatest, of several the least (-9: fewer than two ours).");
        due("nobody", new NineteenSecondsLeft().on(), -9);
        due("one of ours", game("p0s999;").on(), -9);
        due("one of ours behind theirs", game("p1s999;p1s999;p0s999;p1s999;").on(), -9);
        due("none of ours", game("p1s999;p1s999;").on(), -9);
        NineteenSecondsLeft x = game("p1s000;p0s100;p0s500;p0s300;c04;l-1;d0;r0;");
        due("all but the best alike: the least", x.on(), 1);
        due("two: the worse", game("p0s500;p0s300;c04;l-1;d0;r0;").on(), 1);
        due("two alike: the least", game("p0s500;p0s500;c04;l-1;d0;r0;").on(), 0);
        due("his best is the other's: the least", game("p0s900;p0s900;p0s100;c04;l-1;d0;r0;").on(), 0);
        // NEAR by 9 tenths and FAR by 3 behind its miss: 7 SECONDS want both, so VALUE falls by the
        // absence of either; nobody behind the last one may be told.
        NineteenSecondsLeft both = game("p0s900;p0s030;c07;l-1;d0;r9;");
        due("VALUE by both", both.here(), 927000000);
        due("both are wanted: the one who is missed less", both.on(), 1);
        x.set(0, 0);
        due("at the lamp: the least", x.on(), 1);
        due("-9 is no REFUSAL", x.count(14), 0);
        due("he is there still", x.best(4, 5, 0), 20);
        due("as many as there were", x.count(1), 3);
    }

    private void laws() {
        sentence("LAWS: VALUE by each LAW");
        NineteenSecondsLeft x = game("p0s900;p1s050;c04;l+0;d0;r0;");
        int[] values = {900000000, 900000000, 450000000, 900000000};
        for (int law = 0; law <= 3; law++) {
            due("LAW " + law, x.byLaw(law), values[law]);
            due("none below", x.byLaw(-1 - law), -2);
            due("none above", x.byLaw(4 + law), -2);
        }
        due("none is set", x.count(5), 0);
        x.set(1, 9);
        due("TARGET, 3 ahead", x.byLaw(1), WIN);
        x.set(8, 1);
        x.set(1, 3);
        due("TARGET, 3 behind", x.byLaw(1), 0);
        sentence("FAIREST: that by which VALUE is nearest to a half, of several the least.");
        due("all alike: the least", new NineteenSecondsLeft().fairest(), 0);
        due("as near below as above: the least", game("p0s640;p1s500;c04;l+0;b1;d8;r0;").fairest(), 0);
        // None: NEAR by 5 tenths, else a draw: 600000000; STOPPED leaves them FAR by 4: 400000000.
        NineteenSecondsLeft tie = game("p0s500;p1s040;c04;l+0;d2;r0;");
        due("100000000 above", tie.byLaw(0), 600000000);
        due("100000000 below", tie.byLaw(2), 400000000);
        due("as near above as below: the least", tie.fairest(), 0);
        due("a half itself", game("c00;l+0;").fairest(), 0);
        due("STOPPED", game("p0s900;p1s050;c04;l+0;d0;r0;").fairest(), 2);
        due("NO FAR, the greatest", game("p0s060;c03;l-2;d9;").fairest(), 3);
        // 3 ahead they need FAR by 9 tenths for a draw of no worth: 100000000; TARGET has ended it,
        // NO FAR leaves them behind: WIN. 400000000 away is less than 500000000.
        due("the least where it is nearest", game("p1s090;c03;l+3;b1;d0;r0;").fairest(), 0);
        due("whatever LAW it is", game("p0s900;p1s050;c04;l+0;d0;r0;w3;").fairest(), 2);
    }

    private void hand() {
        sentence("HAND: with s SECONDS left (0 .. 24), how many CHOICES (0 .. 2) are off his hand ahead of the lamp (bits).");
        NineteenSecondsLeft x = game("p0s999;w2;c00;");
        for (int s = 0; s <= 24; s++) {
            int bits = s >= 4 ? 7 : s == 3 ? 6 : s >= 1 ? 4 : 0;
            due(s + " SECONDS", x.hand(s), bits);
        }
    }

    private void row() {
        sentence("A number more of the ROW (0 .. 9): how many.");
        NineteenSecondsLeft x = new NineteenSecondsLeft();
        for (int many = 1; many <= 20; many++) {
            due("number " + many, x.row(many % 2 == 0 ? 0 : 9), many);
            due("as many", x.count(6), many);
        }
        due("full", x.row(0), -6);
        due("as full", x.count(6), 20);
        x.judge();
        due("empty", x.count(6), 0);
        due("room again", x.row(0), 1);
    }

    private void judged(NineteenSecondsLeft x, String numbers, int want) {
        for (int i = 0; i < numbers.length(); i++) {
            x.row(numbers.charAt(i) - '0');
        }
        due("row " + numbers, x.judge(), want);
    }

    private void judgedPlaces() {
        sentence("JUDGED from the STATE as it is, each missing and won by the other side: the place of "
                + "the first that can not be (no such PLAYER, not of the side with the BALL, CHOICE above "
                + "3, it has ended); where an unwhole two begins; -9.");
        NineteenSecondsLeft x = game("p0s555;p1s555;p0s555;p1s555;p0s555;p1s555;");
        judged(x, "", -9);
        judged(x, "0", 0);
        judged(x, "9", 0);
        for (int player = 0; player <= 9; player++) {
            boolean ours = player < 6 && player % 2 == 0;
            boolean theirs = player < 6 && player % 2 == 1;
            judged(x, player + "0", ours ? -9 : 0);
            judged(x, player + "2", ours ? -9 : 0);
            judged(x, player + "3", -9);
            judged(x, player + "4", ours ? 1 : 0);
            judged(x, player + "9", ours ? 1 : 0);
            judged(x, "02" + player + "2", theirs ? -9 : 2);
            judged(x, "02" + player + "3", -9);
            judged(x, "02" + player + "5", theirs ? 3 : 2);
            judged(x, "02" + player, 2);
        }
        for (int choice = 0; choice <= 9; choice++) {
            judged(x, "0" + choice, choice <= 3 ? -9 : 1);
        }
        sentence("the place of the first that can not be");
        judged(x, "0404", 1);
        judged(x, "0014" + "02", 3);
        judged(x, "0200" + "99", 2);
        // 20 numbers: 10 QUICK ones, the last one wrong.
        judged(x, "02120212021202120212", -9);
        judged(x, "02120212021202120202", 18);
        judged(x, "02120212021202120214", 19);
        judged(x, "0212021202120212021", 18);
        sentence("(whichever it answers, the ROW has none then)");
        for (String numbers : new String[] {"", "0", "02", "04", "12", "02120212021202120212"}) {
            for (int i = 0; i < numbers.length(); i++) {
                x.row(numbers.charAt(i) - '0');
            }
            x.judge();
            due("none behind " + numbers, x.count(6), 0);
            due("empty behind " + numbers, x.judge(), -9);
        }
    }

    private void judgedEnds() {
        sentence("each missing and won by the other side");
        // Each CHOICE once, then what is in time: another one is judged by what is left.
        int[] takes = {4, 3, 1, 5};
        for (int choice = 0; choice <= 3; choice++) {
            for (int seconds = 0; seconds <= 7; seconds++) {
                NineteenSecondsLeft x = game("p0s999;p1s999;l+0;");
                x.set(0, seconds);
                String next = choice == 3 ? "02" : "12";
                judged(x, "0" + choice + next, seconds == 0 ? 0 : seconds <= takes[choice] ? 2 : -9);
                judged(x, "0" + choice + (choice == 3 ? "12" : "02"), seconds == 0 ? 0 : 2);
                due("SECONDS as they were", x.count(2), seconds);
                due("BALL as it was", x.count(4), 0);
            }
        }
        sentence("CHOICE above 3, it has ended");
        NineteenSecondsLeft x = game("p0s999;p1s999;w1;l+2;");
        judged(x, "02", -9);
        x.set(1, 9);
        judged(x, "02", 0);
        judged(x, "03", 0);
        x.set(1, 3);
        judged(x, "02", 0);
        x.set(1, 4);
        // A miss brings nothing: TARGET is not reached on the way.
        judged(x, "00110212", -9);
        x.set(8, 2);
        x.set(0, 4);
        // STOPPED is for hits alone.
        judged(x, "0012", 2);
        x.set(0, 0);
        judged(x, "93", 0);
        judged(x, "9", 0);
        judged(x, "", -9);
    }

    /** Ends of one QUICK by 4 tenths in the last SECOND: 100 a hit, 1 a miss, by DRAWS of a seed. */
    private static int quickEnds(int n, long seed) {
        List<Integer> draws = new ArrayList<>();
        long z = Math.floorMod(seed, 1L << 32);
        for (int i = 0; i < 2 * n; i++) {
            z = Math.floorMod(z * 1664525L + 1013904223L, 1L << 32);
            draws.add((int) (z % (1L << 31) / 256 % 10));
        }
        int at = 0;
        int answer = 0;
        for (int end = 0; end < n; end++) {
            boolean hit = draws.get(at) < 4;
            // Behind a miss a DRAW tells who has it.
            at += hit ? 1 : 2;
            answer += hit ? 100 : 1;
        }
        return answer;
    }

    /**
     * Ends of NEAR by 9 tenths, then of the other side's QUICK by 4 in the last SECOND of 5; REBOUND
     * 1: what a hit then is worth in the answer, and what a miss behind a hit.
     */
    private static int twoShotEnds(int n, int seed, int quick, int near) {
        int z = seed;
        int answer = 0;
        for (int end = 0; end < n; end++) {
            boolean hit = digit(z = next(z)) < 9;
            if (!hit && digit(z = next(z)) < 1) {
                // They have it again: nothing is off a hand or hits by 0 tenths: no DRAW, a draw.
                answer += 1;
            } else if (digit(z = next(z)) < 4) {
                answer += quick;
            } else {
                z = next(z);
                answer += hit ? near : 1;
            }
        }
        return answer;
    }

    private static int next(int z) {
        return z * 1664525 + 1013904223;
    }

    private static int digit(int z) {
        return (z & MAX) / 256 % 10;
    }

    private void lots() {
        sentence("LOTS with a seed z: n ends (1 .. 30) from here, both at their best, hits and REBOUNDS "
                + "by DRAWS below 10");
        NineteenSecondsLeft x = game("p0s090;c01;l+0;");
        for (int n = 1; n <= 30; n++) {
            due(n + " ends", x.lots(n, 19), quickEnds(n, 19));
        }
        due("none", x.lots(0, 19), -4);
        due("one too many", x.lots(31, 19), -6);
        sentence("how many we win, and draws (each of a 100: 100 times wins and draws)");
        x.set(1, 12);
        due("30 wins", x.lots(30, 1), 3000);
        due("1 win", x.lots(1, 1), 100);
        x.set(0, 0);
        x.set(1, 6);
        due("30 draws at the lamp", x.lots(30, 1), 30);
        due("1 draw at the lamp", x.lots(1, 1), 1);
        x.set(1, 5);
        due("all lost", x.lots(30, 1), 0);
        due("nobody: all lost", new NineteenSecondsLeft().lots(30, MAX), 0);
        NineteenSecondsLeft target = game("p0s999;w1;l+3;c24;");
        due("ended by TARGET", target.lots(30, 0), 3000);
        due("0 tenths hit never", game("p0s010;c01;l-1;").lots(30, 7), 0);
        NineteenSecondsLeft ours = game("p0s900;p1s090;c05;l+0;d5;r1;");
        NineteenSecondsLeft theirs = game("p1s900;p0s090;c05;l+0;d5;r1;b1;");
        for (int seed = -50; seed < 50; seed++) {
            int z = seed * 43046721;
            due("first ours, " + seed, ours.lots(30, z), twoShotEnds(30, z, 0, 100));
            due("first theirs, " + seed, theirs.lots(30, z), twoShotEnds(30, z, 100, 0));
        }
        // QUICK of the last PLAYER, theirs: a hit is lost, a miss a draw.
        NineteenSecondsLeft last = game("p0s000;p0s000;p0s000;p1s000;p1s000;p1s090;c01;l+0;b1;");
        for (int seed = 0; seed < 20; seed++) {
            due("the last PLAYER, " + seed, last.lots(30, seed), quickEnds(30, seed) % 100);
        }
        due("SECONDS as they were", x.count(2), 0);
        due("LEAD as it was", x.count(3), 5);
    }

    private void seeds() {
        sentence("A DRAW below m: z becomes z times 1664525 and 1013904223 (an int); (z without its "
                + "sign's bit by 256, cut) modulo m.");
        NineteenSecondsLeft x = game("p0s090;c01;l+0;");
        int[] seeds = {0, 1, -1, 2, -2, 255, 256, 257, 65535, 1664525, -1664525, 1013904223,
            -1013904223, MAX, MAX - 1, MIN, MIN + 1, 1 << 30, -(1 << 30), 0x55555555, 0xAAAAAAAA};
        for (int seed : seeds) {
            due("30 ends by " + seed, x.lots(30, seed), quickEnds(30, seed));
            due("1 end by " + seed, x.lots(1, seed), quickEnds(1, seed));
        }
        // Seed 0: z is 1013904223, by 256 3960563: 3, a hit. Then 1196435762 (an int, wrapped):
        // 4673577: 7, a miss.
        due("the first DRAW of 0", x.lots(1, 0), 100);
        due("the seed is told anew each time", x.lots(1, 0), 100);
        due("the same for the same", x.lots(30, MIN), x.lots(30, MIN));
    }

    private void images() {
        sentence("THE IMAGE is taken: SECONDS.");
        NineteenSecondsLeft x = game("p0s123;p1k456;c24;l-6;b1;f05;f14;o02;o10;r9;w3;d0;");
        due("24 SECONDS", x.image(), 24);
        sentence("ON from it: SECONDS. -3 there is none.");
        NineteenSecondsLeft none = new NineteenSecondsLeft();
        due("none", none.restore(), -3);
        due("of an empty one", none.image(), 19);
        tell(none, "p0s999;c00;");
        due("there is one", none.restore(), 19);
        due("nobody again", none.count(0), 0);
        due("and again", none.restore(), 19);
        sentence("THE IMAGE: all that there is, but it, the ROW, letters, REFUSALS; ON from it all is as then.");
        tell(x, "p0s000;p0s000;p0s000;p0s000;c00;l+6;b0;f00;f10;o00;o11;r0;w0;d9;");
        x.row(0);
        x.row(2);
        x.letter('c');
        x.letter('0');
        x.letter('0');
        x.player(6, 0);
        due("24 SECONDS again", x.restore(), 24);
        due("two PLAYERS", x.count(0), 2);
        due("the second one", x.player(1, 4), 6);
        due("nobody more", x.player(2, 0), -1);
        int[] told = {24, 0, 1, 5, 4, 2, 0, 9, 3, 0};
        for (int what = 0; what < told.length; what++) {
            due("as then, " + what, x.set(what, told[what]), told[what]);
        }
        due("the ROW stays", x.count(6), 2);
        due("letters stay", x.count(7), 3);
        due("REFUSALS stay", x.count(11), 2);
        x.letter(';');
        due("letters go on", x.hall(), 1);
        due("0 SECONDS", x.count(2), 0);
        due("it is still there", x.restore(), 24);
        due("room for four more", tell(x, "p0s000;p0s000;p0s000;p0s000;"), 4);
        due("no room for five", tell(x, "p0s000;"), -2000);
        // What was solved by other PLAYERS, by another DRAW is solved anew.
        NineteenSecondsLeft y = game("c01;l+0;d0;");
        y.image();
        due("VALUE then", y.here(), 0);
        tell(y, "p0s090;d3;");
        due("VALUE with a PLAYER", y.here(), mixed(4, WIN, 300000000));
        y.restore();
        due("VALUE as then", y.here(), 0);
        due("no PLAYER's CHOICE", y.best(1, 6, 0), 93);
    }

    private void counts() {
        sentence("0 PLAYERS, 1 ours, 2 SECONDS, 3 LEAD and 6, 4 BALL, 5 LAW, 6 in the ROW, 7 letters, "
                + "11 .. 16 REFUSALS -1 .. -6. -9 for another what.");
        NineteenSecondsLeft x = game("p0s000;p0s000;p0s000;p0s000;p1s000;p0s000;c24;l+6;b1;w3;");
        for (int i = 0; i < 20; i++) {
            x.row(9);
        }
        for (int i = 0; i < 96; i++) {
            x.letter(0);
        }
        int[] counts = {6, 5, 24, 12, 1, 3, 20, 96};
        for (int what = 0; what < counts.length; what++) {
            due("the greatest of " + what, x.count(what), counts[what]);
        }
        for (int what = -20; what <= 40; what++) {
            boolean is = what >= 0 && what <= 7 || what >= 11 && what <= 16;
            due("what " + what, x.count(what) == -9 ? 1 : 0, is ? 0 : 1);
        }
        for (int what : new int[] {MIN, MIN + 1, MIN + 11, MAX, MAX - 1, 1 << 30}) {
            due("what " + what, x.count(what), -9);
        }
        for (int times = 1; times <= 9; times++) {
            x.player(-1, 0);
            due("as many as were refused", x.count(11), times);
        }
        for (int number = 12; number <= 16; number++) {
            due("none of " + number, x.count(number), 0);
        }
        due("count refuses nothing", x.count(99) == -9 ? x.count(12) : -1, 0);
    }
}
