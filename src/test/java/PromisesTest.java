/**
 * Each promise of the document by hand: ordinary calls, the edges that it names, wrong ones. The
 * numbers are worked out from the document's words; longer ones stand with their sum.
 */
public final class PromisesTest extends Checks {
    public static void main(String[] args) {
        PromisesTest test = new PromisesTest();
        test.promise1();
        test.promise2();
        test.promise3Form();
        test.promise3Range();
        test.promise3Takes();
        test.promise4();
        test.promise5();
        test.promise6();
        test.promise7Values();
        test.promise7Kinds();
        test.promise7Laws();
        test.promise8();
        test.promise9();
        test.promise10();
        test.promise11();
        test.promise12();
        test.promise13();
        test.promise14();
        test.promise15();
        test.promise16();
        test.promise17();
        test.promise18();
        test.promise19();
        test.promise20();
        test.promise21();
        test.promise22();
        test.promise23();
        test.promise24();
        test.promise25();
        test.promise26();
        test.promise27And28();
        test.promise29();
        test.end();
    }

    private void due(int promise, String what, long got, long want) {
        due("promise " + promise + ", " + what, got, want);
    }

    private void noMore(int promise, NineteenSecondsLeft x, int number, int times) {
        due(promise, "refusals " + number, x.count(10 - number), times);
    }

    private void promise1() {
        NineteenSecondsLeft x = new NineteenSecondsLeft();
        int[] counts = {0, 0, 19, 5, 0, 0, 0, 0};
        for (int what = 0; what < counts.length; what++) {
            due(1, "count " + what, x.count(what), counts[what]);
        }
        for (int what = 11; what <= 16; what++) {
            due(1, "refusals " + what, x.count(what), 0);
        }
        int[] told = {19, 5, 0, 0, 0, 1, 1, 3, 0, 5};
        for (int what = 0; what < told.length; what++) {
            due(1, "set " + what, x.set(what, told[what]), told[what]);
        }
        due(1, "no image", x.restore(), -3);
    }

    private void promise2() {
        NineteenSecondsLeft x = new NineteenSecondsLeft();
        due(2, "the least", x.letter(0), 1);
        due(2, "the greatest", x.letter(255), 2);
        due(2, "below", x.letter(-1), -4);
        due(2, "far below", x.letter(Integer.MIN_VALUE), -4);
        due(2, "above", x.letter(256), -6);
        for (int i = 3; i <= 96; i++) {
            due(2, "letter " + i, x.letter('p'), i);
        }
        due(2, "no room", x.letter('p'), -6);
        due(2, "below ahead of no room", x.letter(-2), -4);
        due(2, "as many", x.count(7), 96);
        noMore(2, x, -4, 3);
        noMore(2, x, -6, 2);
    }

    private void fault(String text, int want) {
        NineteenSecondsLeft x = game("p0h123;c07;l+2;");
        due(3, text, tell(x, text), want);
        due(3, text + ": no letters then", x.count(7), 0);
        due(3, text + ": SECONDS as they were", x.count(2), 7);
        due(3, text + ": LEAD as it was", x.count(3), 8);
        due(3, text + ": PLAYERS as they were", x.count(0), 1);
        for (int number = 11; number <= 16; number++) {
            due(3, text + ": nothing is counted", x.count(number), 0);
        }
    }

    private void promise3Form() {
        fault("", -1000);
        fault(";", -1000);
        fault("P0s000;", -1000);
        fault("p", -1001);
        fault("ps", -1001);
        fault("p0", -1002);
        fault("p0x000;", -1002);
        fault("p0s0", -1004);
        fault("p0s00;", -1005);
        fault("p0s000", -1006);
        fault("p0s0000", -1006);
        fault("p0s00:", -1005);
        fault("p0s0/0", -1004);
        fault("c1;", -1002);
        fault("c111;", -1003);
        fault("l1;", -1001);
        fault("l+;", -1002);
        fault("l*1;", -1001);
        fault("l-11", -1003);
        fault("b;", -1001);
        fault("b11", -1002);
        fault("f0;", -1002);
        fault("o00", -1003);
        fault("o0s", -1002);
        fault("r;", -1001);
        fault("w-", -1001);
        fault("d10", -1002);
        fault("c10;c11;;", -1008);
        fault("c10;c11;p0k", -1011);
        fault("c10; ", -1004);
        fault("c10;" + (char) 240, -1004);
        // A fault of form is told ahead of one of range that stands ahead of it.
        fault("c99;c1", -1006);
        NineteenSecondsLeft x = new NineteenSecondsLeft();
        due(3, "96 letters, the end", tell(x, "b0;".repeat(31) + "b00"), -1095);
        due(3, "96 letters, lacking", tell(x, "b0;".repeat(30) + "c00;" + "c0"), -1096);
        due(3, "96 letters, whole", tell(x, "b0;".repeat(32)), 32);
    }

    private void promise3Range() {
        fault("p2s000;", -2000);
        fault("p9k999;", -2000);
        fault("c25;", -2000);
        fault("c99;", -2000);
        fault("l+7;", -2000);
        fault("l-7;", -2000);
        fault("l-9;", -2000);
        fault("b2;", -2000);
        fault("f20;", -2000);
        fault("f06;", -2000);
        fault("f16;", -2000);
        fault("o20;", -2000);
        fault("o03;", -2000);
        fault("o13;", -2000);
        fault("w4;", -2000);
        fault("c03;l-1;w4;c25;", -2008);
        fault("p0s000;p1s000;c25;", -2014);
        // One is there already.
        fault("p0s000;p0s000;p0s000;p0s000;p0s000;p0s000;", -2035);
        fault("p0s000;p0s000;p0s000;p0s000;p0s000;p0s000;c25;", -2035);
        fault("p0s000;p0s000;p0s000;p0s000;c25;p0s000;p0s000;", -2028);
    }

    private void promise3Takes() {
        NineteenSecondsLeft x = new NineteenSecondsLeft();
        due(3, "each kind of statement",
                tell(x, "c24;l-6;b1;f05;f14;o02;o10;r9;w3;d0;p1k987;p0b000;"), 12);
        int[] told = {24, 0, 1, 5, 4, 2, 0, 9, 3, 0};
        for (int what = 0; what < told.length; what++) {
            due(3, "told " + what, x.set(what, 0), told[what]);
        }
        due(3, "PLAYERS", x.count(0), 2);
        due(3, "ours", x.count(1), 1);
        due(3, "KIND", x.player(0, 1), 5);
        due(3, "NEAR", x.player(0, 2), 9);
        due(3, "FAR", x.player(0, 3), 8);
        due(3, "FREE", x.player(0, 4), 7);
        due(3, "the last of several holds", tell(x, "c01;l+6;c02;l+0;l-0;b0;c00;"), 7);
        due(3, "SECONDS", x.count(2), 0);
        due(3, "LEAD", x.count(3), 6);
        due(3, "more of them", tell(x, "p0s000;p0s000;p0s000;p0s000;"), 4);
        due(3, "six", x.count(0), 6);
        due(3, "no seventh", tell(x, "c09;p0s000;"), -2004);
        due(3, "nothing comes", x.count(2), 0);
        due(3, "range, greatest", tell(x, "c24;l+6;b1;f05;f15;o02;o12;w3;"), 8);
        due(3, "what was solved is solved anew", tell(x, "c00;l+0;d5;w0;"), 4);
        due(3, "a draw", x.here(), 500000000);
        tell(x, "d7;");
        due(3, "a draw of another worth", x.here(), 700000000);
    }

    private void promise4() {
        NineteenSecondsLeft x = game("p0s012;p1h345;p0t678;p1b901;p0o234;p1k567;");
        int[][] facts = {{0, 0, 0, 1, 2}, {1, 1, 3, 4, 5}, {0, 2, 6, 7, 8}, {1, 3, 9, 0, 1},
            {0, 4, 2, 3, 4}, {1, 5, 5, 6, 7}};
        for (int p = 0; p < 6; p++) {
            for (int what = 0; what < 5; what++) {
                due(4, "player " + p + ", " + what, x.player(p, what), facts[p][what]);
            }
        }
        due(4, "nobody", x.player(6, 0), -1);
        due(4, "nobody below", x.player(-1, 0), -1);
        due(4, "nobody ahead of another what", x.player(Integer.MAX_VALUE, 9), -1);
        due(4, "another what", x.player(0, 5), -2);
        due(4, "another what below", x.player(5, -1), -2);
        noMore(4, x, -1, 3);
        noMore(4, x, -2, 2);
    }

    private void hitsOf(String kindAndOdds, int seconds, int near, int far, int free) {
        NineteenSecondsLeft x = game("p1" + kindAndOdds + ";");
        due(5, kindAndOdds + " NEAR", x.hits(0, 0, seconds), near);
        due(5, kindAndOdds + " FAR", x.hits(0, 1, seconds), far);
        due(5, kindAndOdds + " FREE", x.hits(0, 2, seconds), free);
    }

    private void promise5() {
        hitsOf("s059", 24, 0, 5, 9);
        hitsOf("h089", 0, 1, 9, 9);
        hitsOf("h890", 24, 9, 9, 1);
        hitsOf("t019", 24, 0, 0, 8);
        hitsOf("t510", 0, 4, 0, 0);
        hitsOf("b755", 24, 9, 0, 5);
        hitsOf("b899", 3, 9, 0, 9);
        hitsOf("b000", 3, 2, 0, 0);
        hitsOf("o157", 10, 1, 5, 7);
        hitsOf("o157", 9, 0, 4, 6);
        hitsOf("o017", 0, 0, 0, 6);
        hitsOf("o579", 24, 5, 7, 9);
        hitsOf("k874", 24, 9, 4, 4);
        hitsOf("k999", 0, 9, 4, 9);
        hitsOf("k010", 0, 1, 1, 0);
        hitsOf("k000", 12, 1, 0, 0);
        NineteenSecondsLeft x = game("p0s123;");
        due(5, "nobody", x.hits(1, 0, 0), -1);
        due(5, "nobody below, all wrong", x.hits(-1, 7, 77), -1);
        due(5, "another what", x.hits(0, 3, 0), -2);
        due(5, "another what, SECONDS wrong", x.hits(0, -1, -1), -2);
        due(5, "below", x.hits(0, 0, -1), -4);
        due(5, "above", x.hits(0, 0, 25), -6);
        noMore(5, x, -1, 2);
        noMore(5, x, -2, 2);
        noMore(5, x, -4, 1);
        noMore(5, x, -6, 1);
    }

    private void promise6() {
        NineteenSecondsLeft x = new NineteenSecondsLeft();
        int[] most = {24, 12, 1, 5, 5, 2, 2, 9, 3, 9};
        int[] first = {19, 5, 0, 0, 0, 1, 1, 3, 0, 5};
        for (int what = 0; what < most.length; what++) {
            due(6, "first " + what, x.set(what, most[what]), first[what]);
            due(6, "below " + what, x.set(what, -1), -4);
            due(6, "above " + what, x.set(what, most[what] + 1), -6);
            due(6, "far above " + what, x.set(what, Integer.MAX_VALUE), -6);
        }
        for (int what = 0; what < most.length; what++) {
            due(6, "then " + what, x.set(what, 0), most[what]);
            due(6, "least " + what, x.set(what, 0), 0);
        }
        due(6, "another what", x.set(10, 0), -2);
        due(6, "another what below", x.set(-1, -1), -2);
        noMore(6, x, -2, 2);
        noMore(6, x, -4, 10);
        noMore(6, x, -6, 20);
        x.set(1, 6);
        due(6, "a draw of no worth", x.here(), 0);
        x.set(9, 3);
        due(6, "a draw of another worth", x.here(), 300000000);
        // What VALUE hangs on is looked at anew: QUICK by 1 tenth, twice by REBOUND.
        NineteenSecondsLeft y = game("p0s033;l+0;d0;c02;r9;");
        due(6, "REBOUND 9", y.here(), 181000000);
        y.set(7, 0);
        due(6, "REBOUND 0", y.here(), 100000000);
        y.set(9, 9);
        due(6, "DRAW 9", y.here(), 910000000);
        y.set(1, 3);
        due(6, "LEAD", y.here(), 90000000);
        y.set(8, 1);
        due(6, "LAW", y.here(), 0);
    }

    private void promise7Values() {
        NineteenSecondsLeft x = game("p0s555;");
        // The lamp: as LEAD is.
        x.set(0, 0);
        for (int lead = 0; lead <= 12; lead++) {
            x.set(1, lead);
            due(7, "lamp, LEAD " + (lead - 6), x.here(), lead < 6 ? 0 : lead == 6 ? 500000000 : 1000000000);
        }
        // 1 SECOND: QUICK alone is off his hand, by half of 5, cut: 2 tenths.
        x.set(0, 1);
        x.set(1, 6);
        due(7, "QUICK from even", x.here(), 600000000);
        x.set(1, 3);
        due(7, "QUICK to even", x.here(), 100000000);
        x.set(1, 2);
        due(7, "QUICK is not enough", x.here(), 0);
        // 2 SECONDS: QUICK; behind a miss by 3 tenths QUICK again: 3 * 100000000 / 10 = 30000000;
        // 2 * 500000000 + 8 * 30000000 by 10.
        x.set(0, 2);
        x.set(1, 3);
        due(7, "QUICK twice", x.here(), 124000000);
        // 3 SECONDS: FAR by 5 tenths is more.
        x.set(0, 3);
        due(7, "FAR", x.here(), 250000000);
        // 4 SECONDS from 2 behind: FAR wins, they hold; behind a miss by 3 tenths QUICK is left:
        // 3 * 200000000 / 10 = 60000000; (5 * 1000000000 + 5 * 60000000) / 10.
        x.set(0, 4);
        x.set(1, 4);
        due(7, "FAR from 2 behind", x.here(), 530000000);
        // Theirs alone: we hold, they have none to shoot.
        NineteenSecondsLeft y = game("p1s955;l+1;c04;");
        due(7, "we hold the BALL till the lamp", y.here(), 1000000000);
        y.set(2, 1);
        // They: NEAR by 9 tenths wins, and misses it has the same to the lamp: 0.
        due(7, "they take NEAR", y.here(), 100000000);
        y.set(0, 3);
        // FAR by 5 tenths; a miss ends it.
        due(7, "they take FAR", y.here(), 500000000);
        NineteenSecondsLeft none = game("c24;l+0;d6;");
        due(7, "nobody: a draw", none.here(), 600000000);
        none.set(2, 1);
        due(7, "nobody, their BALL: a draw", none.here(), 600000000);
        // LEAD is held: 3 more than 5 is 6.
        NineteenSecondsLeft held = game("p0s099;p1s099;c06;l+6;");
        due(7, "LEAD is held", held.here(), 1000000000);
        NineteenSecondsLeft cut = game("p0s033;r7;l+0;d1;c02;");
        // QUICK by 1 tenth: 100000000 at a draw. 1 SECOND: (1 * 1000000000 + 9 * 100000000) / 10 =
        // 190000000; 2: again 7 * 190000000 + 3 * 100000000 by 10 = 163000000;
        // (1 * 1000000000 + 9 * 163000000) / 10 = 246700000.
        due(7, "REBOUND", cut.here(), 246700000);
    }

    private void promise7Kinds() {
        // 1 SECOND from even: QUICK by half of the FAR tenths by KIND; a draw is worth nothing.
        String[] texts = {"p0s090;", "p0h030;", "p0h090;", "p0t050;", "p0b990;", "p0o070;", "p0k090;"};
        int[] tenths = {4, 2, 4, 2, 0, 3, 2};
        for (int i = 0; i < texts.length; i++) {
            NineteenSecondsLeft x = game(texts[i] + "c01;l+0;d0;");
            due(7, texts[i] + " QUICK", x.here(), tenths[i] * 100000000L);
        }
        // 4 SECONDS: NEAR by the tenths by KIND where FAR is none.
        String[] near = {"p0s400;", "p0h400;", "p0t400;", "p0b400;", "p0o400;", "p0k400;"};
        int[] tenthsNear = {4, 5, 3, 6, 3, 5};
        for (int i = 0; i < near.length; i++) {
            NineteenSecondsLeft x = game(near[i] + "c04;l+0;d0;");
            due(7, near[i] + " NEAR", x.here(), tenthsNear[i] * 100000000L);
        }
        // 10 SECONDS: a ROOKIE's shot now goes by his tenths as told: HOLD first costs him one,
        // and behind NEAR now they have none: he has it again by REBOUND tenths alone.
        NineteenSecondsLeft rookie = game("p0o500;c10;l+0;d0;r0;");
        due(7, "a ROOKIE in 10 SECONDS", rookie.here(), 500000000);
        rookie.set(0, 9);
        due(7, "a ROOKIE in 9 SECONDS", rookie.here(), 400000000);
    }

    private void promise7Laws() {
        // TARGET: 3 ahead has won, 3 behind has lost, whoever has the BALL.
        NineteenSecondsLeft x = game("p0s999;p1s999;w1;c24;");
        x.set(1, 9);
        x.set(2, 1);
        due(7, "TARGET won", x.here(), 1000000000);
        x.set(1, 3);
        x.set(2, 0);
        due(7, "TARGET lost", x.here(), 0);
        // From 2 behind FAR is 1 ahead, no TARGET yet; they hold: won by 5 tenths, else lost.
        NineteenSecondsLeft y = game("p0s050;w1;c06;l-2;r0;");
        due(7, "TARGET not reached", y.here(), 500000000);
        // STOPPED: a hit takes 1 SECOND alone, so they have 3 SECONDS for FAR by 5 tenths.
        NineteenSecondsLeft z = game("p0s900;p1s050;w2;c04;l+0;d0;r0;");
        // NEAR by 9: 2 ahead, 3 SECONDS, their FAR by 5 wins: 500000000; else a miss: 0.
        due(7, "STOPPED", z.here(), 450000000);
        z.set(8, 0);
        due(7, "not STOPPED", z.here(), 900000000);
        z.set(8, 2);
        z.set(0, 3);
        due(7, "STOPPED, not off his hand", z.here(), 0);
        // NO FAR: from 3 behind FAR is worth no draw.
        NineteenSecondsLeft far = game("p0s090;w3;c03;l-3;d5;");
        due(7, "NO FAR from 3 behind", far.here(), 0);
        far.set(1, 4);
        due(7, "NO FAR from 2 behind: a draw", far.here(), 450000000);
        far.set(8, 0);
        due(7, "FAR from 2 behind", far.here(), 900000000);
        far.set(8, 3);
        far.set(0, 1);
        due(7, "NO FAR, QUICK: a draw", far.here(), 200000000);
    }

    private void promise8() {
        NineteenSecondsLeft x = game("p0s555;p1s155;");
        due(8, "QUICK from even", x.of(1, 6, 0), 600000000);
        due(8, "their QUICK from even", x.of(1, 6, 1), 400000000);
        due(8, "the lamp", x.of(0, 6, 1), 500000000);
        due(8, "FAR to even", x.of(3, 3, 0), 250000000);
        due(8, "SECONDS as they were", x.count(2), 19);
        due(8, "LEAD as it was", x.count(3), 5);
        due(8, "the edges", x.of(24, 12, 1), 1000000000);
        x.set(8, 1);
        due(8, "by the LAW as it is", x.of(9, 9, 1), 1000000000);
        due(8, "SECONDS below", x.of(-1, 13, 2), -4);
        due(8, "LEAD below", x.of(25, -1, 2), -4);
        due(8, "BALL below", x.of(25, 13, -1), -4);
        due(8, "SECONDS above", x.of(25, 0, 0), -6);
        due(8, "LEAD above", x.of(0, 13, 0), -6);
        due(8, "BALL above", x.of(0, 0, 2), -6);
        noMore(8, x, -4, 3);
        noMore(8, x, -6, 3);
    }

    private void promise9() {
        NineteenSecondsLeft x = game("p1s222;p0s444;p0s555;p1s999;");
        due(9, "QUICK by the first of equals", x.best(1, 6, 0), 12);
        due(9, "their best QUICK", x.best(1, 6, 1), 32);
        due(9, "FAR by the best", x.best(3, 3, 0), 21);
        due(9, "all alike: the first, NEAR", x.best(1, 0, 0), 10);
        due(9, "all alike: theirs, NEAR", x.best(1, 0, 1), 0);
        due(9, "we hold: ahead with 5 SECONDS", x.best(5, 7, 0), 93);
        due(9, "they hold: ahead with 5 SECONDS", x.best(5, 5, 1), 93);
        due(9, "NEAR is enough", x.best(4, 5, 0), 20);
        due(9, "it has ended", x.best(0, 6, 0), -9);
        x.set(8, 1);
        due(9, "it has ended by TARGET", x.best(24, 9, 0), -9);
        due(9, "it has ended by TARGET for them", x.best(24, 3, 1), -9);
        due(9, "not by TARGET yet", x.best(1, 8, 0), 10);
        due(9, "below", x.best(0, 0, -1), -4);
        due(9, "below ahead of above", x.best(25, -1, 0), -4);
        due(9, "above", x.best(25, 0, 0), -6);
        due(9, "LEAD above", x.best(0, 13, 0), -6);
        due(9, "BALL above", x.best(0, 0, 2), -6);
        noMore(9, x, -4, 2);
        noMore(9, x, -6, 3);
        NineteenSecondsLeft none = game("p0s555;");
        due(9, "none of theirs: HOLD", none.best(5, 6, 1), 93);
        due(9, "none of theirs: HOLD however few", none.best(1, 0, 1), 93);
    }

    private void promise10() {
        NineteenSecondsLeft x = game("p0s999;p1s000;");
        due(10, "all alike: always a shot", x.from(0, 0), 24);
        due(10, "far ahead: always a shot", x.from(12, 1), 24);
        NineteenSecondsLeft y = game("p0s000;p1s999;r0;");
        // 1 ahead he shoots while no shot gives the BALL away in time: 1 SECOND for QUICK, which
        // ends it; with 2 SECONDS NEAR is not off his hand and ends it as well, and so to 3; with 4
        // NEAR is off his hand and ends it as well (FAR would leave a SECOND).
        due(10, "1 ahead", y.from(7, 0), 4);
        due(10, "none of a side: none", game("p0s555;").from(6, 1), 0);
        due(10, "nobody: none", new NineteenSecondsLeft().from(6, 0), 0);
        x.set(8, 1);
        due(10, "it has ended by TARGET: none", x.from(9, 0), 0);
        due(10, "LEAD below", x.from(-1, 2), -4);
        due(10, "BALL below", x.from(13, -1), -4);
        due(10, "LEAD above", x.from(13, 0), -6);
        due(10, "BALL above", x.from(0, 2), -6);
        noMore(10, x, -4, 2);
        noMore(10, x, -6, 2);
    }

    private void promise11() {
        NineteenSecondsLeft x = game("c00;l-1;d4;");
        due(11, "to a draw", x.point(), 400000000);
        x.set(1, 6);
        due(11, "to a win", x.point(), 600000000);
        x.set(1, 4);
        due(11, "to nothing", x.point(), 0);
        x.set(1, 12);
        due(11, "LEAD 6", x.point(), 0);
        NineteenSecondsLeft y = game("p0s555;c01;l-4;");
        // From 4 behind nothing, from 3 behind QUICK by 2 tenths to even.
        due(11, "in play", y.point(), 100000000);
        y.set(8, 1);
        y.set(1, 8);
        y.set(2, 1);
        due(11, "by TARGET", y.point(), 0);
        due(11, "LEAD as it was", y.count(3), 8);
        // Their BALL: QUICK by 2 tenths from even to a loss, from 1 behind to a loss: 400000000
        // at even, 800000000 at 1 ahead.
        NineteenSecondsLeft z = game("p0s999;p1s055;c01;l+0;b1;");
        due(11, "their BALL", z.point(), 400000000);
    }

    private void promise12() {
        NineteenSecondsLeft x = game("p0s330;p0s840;p0s170;p1s999;c04;l-1;r0;");
        // NEAR by 8 tenths ends it: 800000000. FAR by 7: 1 SECOND is theirs, QUICK by 4 tenths:
        // 2 ahead, so they win by 4: 600000000; a miss leaves us behind: 420000000.
        due(12, "NEAR is better", x.twoOrThree(), 380000000);
        x.set(1, 4);
        // From 2 behind NEAR is a draw: 400000000. FAR: 1 ahead then: 420000000.
        due(12, "FAR is better", x.twoOrThree(), -20000000);
        x.set(0, 3);
        // NEAR is not off his hand: 0; FAR by 7 tenths.
        due(12, "NEAR is too late", x.twoOrThree(), -700000000);
        x.set(8, 3);
        due(12, "NO FAR", x.twoOrThree(), -350000000);
        x.set(8, 0);
        x.set(2, 1);
        due(12, "not our BALL", x.twoOrThree(), 2000000003);
        x.set(2, 0);
        x.set(0, 0);
        due(12, "it has ended", x.twoOrThree(), 2000000003);
        x.set(0, 9);
        x.set(8, 1);
        x.set(1, 9);
        due(12, "it has ended by TARGET", x.twoOrThree(), 2000000003);
        noMore(12, x, -3, 3);
        due(12, "the best is the first", game("p0s990;p0s110;c04;l-1;r0;").twoOrThree(), 0);
        due(12, "none of us", game("p1s555;").twoOrThree(), 2000000003);
        // 1 ahead we need no 2 points but the BALL: the best for NEAR is who misses most.
        NineteenSecondsLeft y = game("p0s990;p0s110;p1s090;c24;l+1;r9;d0;");
        long near = mixed(1, y.of(20, 9, 1), mixed(9, y.of(20, 7, 0), y.of(20, 7, 1)));
        long far = mixed(9, y.of(21, 10, 1), mixed(9, y.of(21, 7, 0), y.of(21, 7, 1)));
        due(12, "a hit is worse", y.of(20, 9, 1) < y.of(20, 7, 0) ? 1 : 0, 1);
        due(12, "the best is by VALUE", y.twoOrThree(), near - far);
    }

    private void promise13() {
        NineteenSecondsLeft x = game("p0s033;l+0;d0;c02;");
        // QUICK by 1 tenth; 1 SECOND: 100000000. By 9: 9 * 100000000 / 10 = 90000000 behind a
        // miss: (1000000000 + 9 * 90000000) / 10 = 181000000. By 0: 100000000.
        due(13, "QUICK twice", x.rebound(), 81000000);
        x.set(7, 9);
        due(13, "whatever it is", x.rebound(), 81000000);
        x.set(0, 1);
        due(13, "once alone", x.rebound(), 0);
        x.set(0, 2);
        x.set(2, 1);
        due(13, "they hold", x.rebound(), 0);
        due(13, "REBOUND as it was", x.set(7, 1), 9);
    }

    private void promise14() {
        NineteenSecondsLeft x = game("p0s555;p1s995;p1o992;c02;l+0;b1;");
        // 1 SECOND is ours then; QUICK by 2 tenths: even 600000000, 1 behind 200000000, 2 behind
        // 200000000. By 5 tenths: (5 * 200000000 + 5 * 200000000) / 10 behind a hit, 400000000
        // behind a miss.
        due(14, "by 5 tenths", x.foul(1), 300000000);
        // A ROOKIE's FREE tenths: 1. Behind a hit 200000000, behind a miss 560000000.
        due(14, "a ROOKIE", x.foul(2), 524000000);
        due(14, "FOULS as they were", x.set(3, 4), 0);
        due(14, "4 FOULS", x.foul(1), 300000000);
        x.set(4, 5);
        due(14, "their FOULS do not count", x.foul(1), 300000000);
        x.set(3, 5);
        due(14, "5 FOULS", x.foul(1), -3);
        x.set(3, 0);
        due(14, "he is ours", x.foul(0), -3);
        x.set(2, 0);
        due(14, "our BALL", x.foul(1), -3);
        x.set(2, 1);
        x.set(0, 0);
        due(14, "it has ended", x.foul(1), -3);
        due(14, "nobody", x.foul(3), -1);
        due(14, "nobody below", x.foul(-1), -1);
        noMore(14, x, -1, 2);
        noMore(14, x, -3, 4);
        x.set(0, 1);
        // The lamp then: even by no hit alone, 25 of 100.
        due(14, "the last SECOND", x.foul(1), 125000000);
        x.set(1, 0);
        due(14, "LEAD is held", x.foul(1), 0);
        // TARGET ends it behind both alone: from 2 behind both are looked at behind them.
        NineteenSecondsLeft y = game("p1s009;p1s000;w1;c09;l-2;b1;");
        due(14, "TARGET", y.foul(0), 0);
        y.set(1, 3);
        due(14, "it has ended by TARGET", y.foul(0), -3);
        // 10 SECONDS ahead of the foul: a ROOKIE is calm though 9 are left behind it.
        NineteenSecondsLeft calm = game("p1o001;c10;l+0;b1;d0;");
        calm.set(1, 8);
        // 2 ahead, nobody of ours: hits leave 1 or 0: by 1 tenth both: 10000000 are lost.
        due(14, "a ROOKIE in 10 SECONDS", calm.foul(0), 990000000);
        calm.set(0, 9);
        due(14, "a ROOKIE in 9 SECONDS", calm.foul(0), 1000000000);
        foulsAreCutTwice();
    }

    private void foulsAreCutTwice() {
        // By STOPPED values have digits enough to be cut.
        NineteenSecondsLeft x = game("p0o848;p0b758;p1k157;p1b873;p1t520;b1;w2;r5;d2;");
        int odds = 7;
        int otherwise = 0;
        for (int seconds = 1; seconds <= 24; seconds++) {
            x.set(0, seconds);
            for (int lead = 2; lead <= 12; lead++) {
                x.set(1, lead);
                long none = x.of(seconds - 1, lead, 0);
                long one = x.of(seconds - 1, lead - 1, 0);
                long both = x.of(seconds - 1, lead - 2, 0);
                long want = mixed(odds, mixed(odds, both, one), mixed(odds, one, none));
                due(14, seconds + " SECONDS, LEAD and 6 " + lead, x.foul(2), want);
                otherwise += want == (49 * both + 42 * one + 9 * none) / 100 ? 0 : 1;
            }
        }
        due(14, "cut twice is other than once", otherwise > 9 ? 1 : 0, 1);
    }

    private void promise15() {
        NineteenSecondsLeft x = game("p0s555;p1s997;p1s991;p1h990;p1s999;c02;l+0;b1;");
        due(15, "the first of equals", x.whom(0), 2);
        due(15, "it pays", x.whom(1), 1);
        // Their QUICK by 4 tenths, again by 3: about half lost: more than by 9 FREE ones of 10.
        NineteenSecondsLeft y = game("p0s555;p1s009;c02;l+0;b1;");
        due(15, "the one there is", y.whom(0), 1);
        due(15, "it does not pay", y.whom(1), 0);
        due(15, "the first of all", game("p1s000;p1s001;c09;l+0;b1;").whom(0), 0);
        // The lamp behind the foul: no FREE one is hit: a draw; their QUICK by 4 tenths: less.
        due(15, "the last SECOND", game("p1s090;c01;l+0;b1;").whom(1), 1);
        NineteenSecondsLeft same = game("p1s000;c02;l+1;b1;");
        due(15, "as much as it is does not pay", same.whom(1), 0);
        due(15, "another what", x.whom(2), -2);
        due(15, "another what below", x.whom(-1), -2);
        x.set(3, 5);
        due(15, "5 FOULS", x.whom(0), -3);
        due(15, "another what ahead of FOULS", x.whom(9), -2);
        x.set(3, 4);
        due(15, "4 FOULS", x.whom(0), 2);
        x.set(2, 0);
        due(15, "our BALL", x.whom(1), -3);
        x.set(2, 1);
        x.set(0, 0);
        due(15, "it has ended", x.whom(0), -3);
        noMore(15, x, -2, 3);
        noMore(15, x, -3, 3);
        due(15, "none of them", game("p0s555;b1;").whom(0), -3);
    }

    private void promise16() {
        NineteenSecondsLeft x = game("p0s005;p0o002;p1s000;c04;l-1;");
        // They hold: none 0, one 500000000, both 1000000000.
        due(16, "by 5 tenths", x.freed(0), 500000000);
        due(16, "a ROOKIE", x.freed(1), 100000000);
        x.set(2, 1);
        due(16, "their BALL, too", x.freed(0), 500000000);
        due(16, "he is theirs", x.freed(2), -3);
        due(16, "nobody", x.freed(3), -1);
        due(16, "nobody below", x.freed(-9), -1);
        x.set(0, 0);
        due(16, "it has ended", x.freed(0), -3);
        x.set(0, 10);
        due(16, "a ROOKIE in 10 SECONDS", x.freed(1), 200000000);
        x.set(8, 1);
        x.set(1, 8);
        // 2 ahead: a hit is TARGET.
        due(16, "TARGET", x.freed(0), 1000000000);
        x.set(1, 9);
        due(16, "it has ended by TARGET", x.freed(0), -3);
        noMore(16, x, -1, 2);
        noMore(16, x, -3, 3);
        x.set(8, 0);
        x.set(1, 12);
        due(16, "LEAD is held", x.freed(0), 1000000000);
        // No SECOND goes by: in 1 SECOND they take QUICK by 4 tenths from 1 behind.
        NineteenSecondsLeft y = game("p0s009;p1s090;c01;l-1;");
        // none 0; even: 300000000; 1 ahead: 600000000. (9 * 600000000 + 300000000) / 10 behind a
        // hit = 570000000; behind a miss 270000000.
        due(16, "their SECOND", y.freed(0), 540000000);
        // TARGET is looked at behind both alone: one of two from 2 ahead ends it, none does not.
        NineteenSecondsLeft z = game("p0s005;p1s090;c01;l+2;w1;");
        // none: QUICK by 4 tenths from 2 behind: 600000000; one or both: 1000000000.
        due(16, "TARGET behind both", z.freed(0), 900000000);
        NineteenSecondsLeft w = game("p0s537;p1h463;c23;l-3;");
        long none = w.of(23, 3, 1);
        long one = w.of(23, 4, 1);
        long both = w.of(23, 5, 1);
        due(16, "by 7 tenths", w.freed(0), mixed(7, mixed(7, both, one), mixed(7, one, none)));
    }

    private void promise17() {
        NineteenSecondsLeft x = game("p0s450;p0s890;p1s999;p0b800;c04;l+0;d0;r0;");
        // Free NEAR 5, FAR 6 to 1 SECOND (their QUICK 4 tenths from 3 behind is a draw: 600000000);
        // guarded NEAR 4, FAR 4; BIG NEAR 9 as he is.
        due(17, "BIG is left", x.doubled(0, 1), 900000000);
        // BIG is guarded: 4; 0 free: NEAR 5; 1 as he is: NEAR 8.
        due(17, "the other is left", x.doubled(0, 3), 800000000);
        NineteenSecondsLeft y = game("p0s450;p0s890;c04;l+0;d0;r0;");
        // FAR by 6 tenths of the free one: 600000000.
        due(17, "FAR of the free one", y.doubled(0, 1), 600000000);
        // NEAR 9, FAR 9 at most of the free one; guarded 2, 2.
        due(17, "9 at most", y.doubled(1, 0), 900000000);
        y.set(0, 1);
        // QUICK: half of 6: 3; half of 4: 2.
        due(17, "QUICK of the free one", y.doubled(0, 1), 300000000);
        NineteenSecondsLeft big = game("p0b090;p0s000;c03;l+0;d0;");
        due(17, "BIG's FAR, 1 more by his KIND", big.doubled(0, 1), 100000000);
        NineteenSecondsLeft cold = game("p0s000;p0k070;c03;l+0;d0;");
        // Guarded: half of 4 by his KIND.
        due(17, "COLD's FAR, half by his KIND", cold.doubled(0, 1), 200000000);
        NineteenSecondsLeft hot = game("p0s000;p0h700;c04;l+0;d0;");
        due(17, "HOT's NEAR, half by his KIND", hot.doubled(0, 1), 400000000);
        NineteenSecondsLeft hottest = game("p0s000;p0h900;c04;l+0;d0;");
        due(17, "half behind his KIND, not ahead", hottest.doubled(0, 1), 400000000);
        NineteenSecondsLeft bigNear = game("p0s000;p0b400;c04;l+0;d0;");
        due(17, "BIG's NEAR, half by his KIND", bigNear.doubled(0, 1), 300000000);
        NineteenSecondsLeft tired = game("p0t000;p0s000;c04;l+0;d0;");
        due(17, "TIRED's NEAR, 1 more by his KIND", tired.doubled(0, 1), 100000000);
        due(17, "one twice", x.doubled(0, 0), -1);
        due(17, "one of theirs twice", x.doubled(2, 2), -1);
        due(17, "nobody free", x.doubled(4, 2), -1);
        due(17, "nobody guarded", x.doubled(2, 4), -1);
        due(17, "below", x.doubled(-1, 0), -1);
        due(17, "the free one is theirs", x.doubled(2, 0), -3);
        due(17, "the guarded one is theirs", x.doubled(0, 2), -3);
        noMore(17, x, -1, 5);
        noMore(17, x, -3, 2);
        x.set(0, 0);
        x.set(1, 7);
        due(17, "ended", x.doubled(0, 1), 1000000000);
        due(17, "PLAYERS as they were", x.player(0, 2), 4);
    }

    private void promise18() {
        NineteenSecondsLeft x = game("p0s450;p0s890;p1s000;c04;l-1;d0;r0;");
        // FAR by 9 tenths: 900000000; the free one needs 8 and 1 more.
        due(18, "8 and 1 more", x.howGood(0, 1), 8);
        // The free one has FAR 9 as it is.
        due(18, "FAR is enough", x.howGood(1, 0), 0);
        x.set(0, 0);
        due(18, "ended: 0", x.howGood(0, 1), 0);
        NineteenSecondsLeft y = game("p0t009;p0s900;c04;l+0;d0;r0;");
        // 9 tenths are out of reach for a TIRED one: 8 and 1 more is 9, at told 9.
        due(18, "told by his KIND", y.howGood(0, 1), 9);
        NineteenSecondsLeft z = game("p0s009;p0s090;c03;l+0;d0;r0;");
        due(18, "out of reach", z.howGood(0, 1), -9);
        due(18, "one twice", x.howGood(1, 1), -1);
        due(18, "nobody", x.howGood(0, 3), -1);
        due(18, "nobody ahead of theirs", x.howGood(2, 9), -1);
        due(18, "free is theirs", x.howGood(2, 0), -3);
        due(18, "guarded is theirs", x.howGood(0, 2), -3);
        noMore(18, x, -1, 3);
        noMore(18, x, -3, 2);
        due(18, "NEAR as it was", x.player(0, 2), 4);
    }

    private void promise19() {
        NineteenSecondsLeft x = game("p0s480;p1s090;c04;l-1;d0;r0;");
        // NEAR 5, FAR 9 tenths then; FAR leaves a SECOND, 2 ahead, theirs as they are: QUICK by 4:
        // 540000000; now by 8: 480000000.
        due(19, "1 tenth more", x.call(), 60000000);
        due(19, "CALLS as they were", x.set(5, 2), 1);
        due(19, "2 CALLS", x.call(), 60000000);
        x.set(6, 0);
        due(19, "their CALLS do not count", x.call(), 60000000);
        x.set(0, 0);
        due(19, "ended", x.call(), 0);
        x.set(5, 0);
        due(19, "no CALLS", x.call(), 2000000003);
        x.set(5, 1);
        x.set(2, 1);
        due(19, "their BALL", x.call(), 2000000003);
        noMore(19, x, -3, 2);
        due(19, "9 at most", game("p0s990;c03;l-1;").call(), 0);
        due(19, "by KIND", game("p0b000;c03;l-1;").call(), 100000000);
        due(19, "QUICK", game("p0s030;c01;l-1;").call(), 100000000);
        due(19, "nobody", new NineteenSecondsLeft().call(), 0);
        // Theirs as they are: QUICK by 3 tenths: 9 of 10 by 700000000 less 8 of 10.
        due(19, "ours alone", game("p0s480;p1s070;c04;l-1;d0;r0;").call(), 70000000);
    }

    private void promise20() {
        NineteenSecondsLeft x = game("p1s000;p0s200;p0s700;p0s300;c04;l-1;r0;");
        due(20, "the first of equals", x.on(), 1);
        x.set(0, 0);
        due(20, "ended: the first", x.on(), 1);
        due(20, "one of ours", game("p1s999;p0s200;").on(), -9);
        due(20, "nobody", new NineteenSecondsLeft().on(), -9);
        // The first is the one to have on.
        due(20, "the second", game("p0s900;p0s100;c04;l-1;").on(), 1);
        due(20, "the third", game("p0s090;p0s900;p0s090;c04;l-1;r0;p1s999;").on(), 0);
        due(20, "PLAYERS as they were", x.count(0), 4);
    }

    private void promise21() {
        NineteenSecondsLeft x = game("p0s900;p1s050;c04;l+0;d0;r0;");
        due(21, "none", x.byLaw(0), 900000000);
        due(21, "TARGET", x.byLaw(1), 900000000);
        due(21, "STOPPED", x.byLaw(2), 450000000);
        due(21, "NO FAR", x.byLaw(3), 900000000);
        x.set(8, 2);
        due(21, "whatever it is", x.byLaw(0), 900000000);
        x.set(1, 9);
        x.set(2, 1);
        // 3 ahead: TARGET is won; else they hold or take FAR to a draw that is worth nothing.
        due(21, "TARGET from 3 ahead", x.byLaw(1), 1000000000);
        due(21, "NO FAR from 3 ahead", x.byLaw(3), 1000000000);
        due(21, "none from 3 ahead", x.byLaw(0), 500000000);
        due(21, "LAW as it was", x.count(5), 2);
        due(21, "another", x.byLaw(4), -2);
        due(21, "another below", x.byLaw(-1), -2);
        noMore(21, x, -2, 2);
    }

    private void promise22() {
        NineteenSecondsLeft x = game("p0s900;p1s050;c04;l+0;d0;r0;");
        due(22, "STOPPED", x.fairest(), 2);
        x.set(8, 3);
        due(22, "STOPPED, whatever it is", x.fairest(), 2);
        due(22, "all alike: the least", new NineteenSecondsLeft().fairest(), 0);
        NineteenSecondsLeft y = game("p1s050;c03;l+3;b1;d2;");
        // none 600000000, TARGET 1000000000, STOPPED 600000000, NO FAR 1000000000.
        due(22, "the least of two", y.fairest(), 0);
        NineteenSecondsLeft z = game("p0s060;c03;l-2;d9;");
        // none 600000000; NO FAR a draw by 6 tenths: 540000000.
        due(22, "NO FAR", z.fairest(), 3);
        NineteenSecondsLeft tie = game("p0s640;p1s500;c04;l+0;b1;d8;r0;");
        due(22, "100000000 below a half", tie.byLaw(0), 400000000);
        // STOPPED: behind their NEAR by 5 tenths we have 3 SECONDS for FAR by 4 tenths.
        due(22, "100000000 above a half", tie.byLaw(2), 600000000);
        due(22, "as near below as above: the least", tie.fairest(), 0);
        NineteenSecondsLeft t = game("p0s990;p1s090;c24;l+2;b1;d0;");
        int best = 0;
        for (int law = 1; law < 4; law++) {
            if (Math.abs(t.byLaw(law) - 500000000L) < Math.abs(t.byLaw(best) - 500000000L)) {
                best = law;
            }
        }
        due(22, "as byLaw tells", t.fairest(), best);
    }

    private void promise23() {
        NineteenSecondsLeft x = new NineteenSecondsLeft();
        int[] bits = {0, 4, 4, 6, 7, 7};
        for (int s = 0; s < bits.length; s++) {
            due(23, "hand " + s, x.hand(s), bits[s]);
        }
        due(23, "hand 24", x.hand(24), 7);
        due(23, "below", x.hand(-1), -4);
        due(23, "above", x.hand(25), -6);
        noMore(23, x, -4, 1);
        noMore(23, x, -6, 1);
    }

    private void promise24() {
        NineteenSecondsLeft x = new NineteenSecondsLeft();
        due(24, "below", x.row(-1), -4);
        due(24, "above", x.row(10), -6);
        for (int i = 1; i <= 20; i++) {
            due(24, "row " + i, x.row(i % 10), i);
        }
        due(24, "no room", x.row(0), -6);
        due(24, "below ahead of no room", x.row(-1), -4);
        due(24, "as many", x.count(6), 20);
        noMore(24, x, -4, 2);
        noMore(24, x, -6, 2);
    }

    private void judged(NineteenSecondsLeft x, String numbers, int want) {
        for (int i = 0; i < numbers.length(); i++) {
            x.row(numbers.charAt(i) - '0');
        }
        due(25, "row " + numbers, x.judge(), want);
        due(25, "no ROW then", x.count(6), 0);
    }

    private void promise25() {
        NineteenSecondsLeft x = game("p0s555;p1s555;p0s555;");
        judged(x, "", -9);
        judged(x, "0", 0);
        judged(x, "00", -9);
        judged(x, "0010", -9);
        judged(x, "0020", 2);
        judged(x, "10", 0);
        judged(x, "30", 0);
        judged(x, "0131", 2);
        // The CHOICE's own place where it alone can not be, else the PLAYER's.
        judged(x, "04", 1);
        judged(x, "29", 1);
        judged(x, "00" + "19", 3);
        judged(x, "93" + "05", 3);
        judged(x, "14", 0);
        judged(x, "34", 0);
        judged(x, "94", 0);
        judged(x, "00" + "04", 2);
        judged(x, "021202120212021202" + "14", 19);
        judged(x, "93", -9);
        judged(x, "9303" + "20", -9);
        judged(x, "9303" + "10", 4);
        judged(x, "001", 2);
        judged(x, "009", 2);
        // 19 SECONDS: 5, 5, 5, 4.
        judged(x, "83838320", -9);
        judged(x, "8383832083", 8);
        judged(x, "838383208", 8);
        judged(x, "83838324", 7);
        judged(x, "8383832014", 8);
        // 4, 3, 1, 5, 4, 2 of 4.
        judged(x, "0011" + "02" + "93" + "1000", -9);
        judged(x, "0011" + "02" + "93" + "1000" + "12", 12);
        x.set(0, 6);
        judged(x, "93" + "02", -9);
        judged(x, "93" + "02" + "12", 4);
        x.set(0, 2);
        judged(x, "0210", -9);
        judged(x, "021002", 4);
        judged(x, "0312", 2);
        x.set(2, 1);
        judged(x, "00", 0);
        judged(x, "12", -9);
        judged(x, "14", 1);
        judged(x, "04", 0);
        x.set(0, 0);
        judged(x, "93", 0);
        judged(x, "14", 0);
        x.set(0, 9);
        x.set(8, 1);
        x.set(1, 8);
        judged(x, "12", -9);
        x.set(1, 9);
        judged(x, "12", 0);
        due(25, "SECONDS as they were", x.count(2), 9);
        due(25, "BALL as it was", x.count(4), 1);
        for (int number = 11; number <= 16; number++) {
            due(25, "nothing is refused", x.count(number), 0);
        }
    }

    /** DRAWS below 10 of a seed, in their order. */
    private static int[] draws(int seed, int many) {
        int[] answer = new int[many];
        int z = seed;
        for (int i = 0; i < many; i++) {
            z = z * 1664525 + 1013904223;
            answer[i] = (int) ((z & 0x7fffffffL) / 256 % 10);
        }
        return answer;
    }

    private void promise26() {
        for (int seed = -60; seed < 60; seed++) {
            // One QUICK an end by 4 tenths, and a REBOUND's DRAW behind each miss.
            NineteenSecondsLeft x = game("p0s090;c01;l+0;");
            int[] draws = draws(seed * 77777777, 60);
            int at = 0;
            int want = 0;
            for (int end = 0; end < 30; end++) {
                boolean hit = draws[at] < 4;
                at += hit ? 1 : 2;
                want += hit ? 100 : 1;
            }
            due(26, "QUICK, seed " + seed, x.lots(30, seed * 77777777), want);
        }
        for (int seed = 0; seed < 40; seed++) {
            // 2 SECONDS: QUICK, behind a miss again by 6 tenths (3 behind: a draw at the best).
            NineteenSecondsLeft x = game("p0s080;c02;l-3;r6;");
            int[] draws = draws(seed, 4);
            boolean again = draws[0] >= 4 && draws[1] < 6;
            boolean even = draws[0] < 4 || again && draws[2] < 4;
            due(26, "QUICK twice, seed " + seed, x.lots(1, seed), even ? 1 : 0);
        }
        NineteenSecondsLeft x = game("p0s999;p1s999;c05;l+1;");
        due(26, "we hold", x.lots(30, 5), 3000);
        x.set(2, 1);
        x.set(1, 5);
        due(26, "they hold", x.lots(30, 5), 0);
        x.set(0, 0);
        x.set(1, 6);
        due(26, "ended: draws", x.lots(7, 5), 7);
        due(26, "below", x.lots(0, 0), -4);
        due(26, "far below", x.lots(Integer.MIN_VALUE, 0), -4);
        due(26, "above", x.lots(31, 0), -6);
        due(26, "one", x.lots(1, Integer.MIN_VALUE), 1);
        noMore(26, x, -4, 2);
        noMore(26, x, -6, 1);
        due(26, "SECONDS as they were", x.count(2), 0);
        lotsOfPlans();
        // Not off his hand: no DRAW, it ends with LEAD as it is.
        due(26, "not off his hand", game("p0s999;c02;l+4;w3;").lots(30, 1), 3000);
    }

    /** LOTS of longer ends: as one plays by what best() and hits() tell. */
    private void lotsOfPlans() {
        String[] texts = {"p0s555;p1s555;p0s391;p1h272;c09;l+0;", "p1s090;p0k585;p0o860;c12;l-2;r0;",
            "p0t999;p1t999;p1b700;c24;l+1;b1;r9;", "p0h372;p1k663;c15;l-1;w2;r4;",
            "p0s454;p0s545;p1o782;c24;l+0;w1;", "p0s273;p1s733;p0h820;c10;l-3;w3;r5;b1;"};
        for (String text : texts) {
            NineteenSecondsLeft x = game(text);
            for (int seed = 1; seed < 40; seed++) {
                int z = seed * 987654321;
                due(26, text + " seed " + z, x.lots(7, z), lotsByPlan(x, text, 7, z));
            }
        }
    }

    private static int lotsByPlan(NineteenSecondsLeft x, String text, int n, int z) {
        int rebound = text.contains("r") ? text.charAt(text.indexOf('r') + 1) - '0' : 3;
        int[] draws = draws(z, 1000);
        int at = 0;
        int answer = 0;
        for (int end = 0; end < n; end++) {
            int s = x.count(2);
            int lead = x.count(3);
            int ball = x.count(4);
            for (int best = x.best(s, lead, ball); best != -9; best = x.best(s, lead, ball)) {
                int choice = best % 10;
                int takes = new int[] {4, 3, 1, 5}[choice];
                if (choice == 3 || takes > s) {
                    s = Math.max(0, s - takes);
                    continue;
                }
                int t = x.hits(best / 10, Math.min(1, choice), s) / (choice == 2 ? 2 : 1);
                if (draws[at++] < t) {
                    int points = choice == 0 || x.count(5) == 3 ? 2 : 3;
                    lead = Math.max(0, Math.min(12, ball == 0 ? lead + points : lead - points));
                    s -= x.count(5) == 2 ? 1 : takes;
                    ball = 1 - ball;
                } else {
                    s -= takes;
                    ball = draws[at++] < rebound ? ball : 1 - ball;
                }
            }
            answer += lead > 6 ? 100 : lead == 6 ? 1 : 0;
        }
        return answer;
    }

    private void promise27And28() {
        NineteenSecondsLeft x = game("p0s123;p1k456;c07;l+3;b1;f02;f13;o00;o12;r8;w1;d2;");
        due(28, "none yet", x.restore(), -3);
        due(27, "SECONDS", x.image(), 7);
        x.letter('c');
        x.row(4);
        tell(x, "p0s000;c24;l-6;b0;f05;f15;o02;o10;r0;w0;d9;");
        x.letter('c');
        x.letter('1');
        due(28, "SECONDS", x.restore(), 7);
        int[] told = {7, 9, 1, 2, 3, 0, 2, 8, 1, 2};
        for (int what = 0; what < told.length; what++) {
            due(28, "as then " + what, x.set(what, 0), told[what]);
        }
        due(28, "PLAYERS", x.count(0), 2);
        due(28, "a PLAYER", x.player(1, 3), 5);
        due(28, "the ROW is not of it", x.count(6), 1);
        due(28, "letters are not of it", x.count(7), 2);
        due(28, "REFUSALS are not of it", x.count(13), 1);
        x.hall();
        tell(x, "p0s999;");
        due(28, "again", x.restore(), 7);
        due(28, "PLAYERS again", x.count(0), 2);
        x.set(0, 3);
        due(27, "another", x.image(), 3);
        x.set(0, 4);
        due(28, "the last one", x.restore(), 3);
        // What was solved by other PLAYERS is solved anew.
        NineteenSecondsLeft y = game("c01;l+0;d0;");
        y.image();
        tell(y, "p0s090;");
        due(28, "with a PLAYER", y.here(), 400000000);
        y.restore();
        due(28, "without him", y.here(), 0);
    }

    private void promise29() {
        NineteenSecondsLeft x = game("p0s123;p1k456;p0h000;c07;l+3;b1;w2;");
        x.row(1);
        x.row(2);
        x.letter('p');
        int[] counts = {3, 2, 7, 9, 1, 2, 2, 1};
        for (int what = 0; what < counts.length; what++) {
            due(29, "count " + what, x.count(what), counts[what]);
        }
        int[] others = {-1, 8, 9, 10, 17, 18, Integer.MIN_VALUE, Integer.MAX_VALUE};
        for (int what : others) {
            due(29, "count " + what, x.count(what), -9);
        }
        for (int what = 11; what <= 16; what++) {
            due(29, "no refusals " + what, x.count(what), 0);
        }
        x.player(9, 0);
        x.byLaw(9);
        x.byLaw(-9);
        x.freed(1);
        x.call();
        x.restore();
        x.hand(-1);
        x.hand(25);
        x.row(11);
        int[] refusals = {1, 2, 3, 1, 0, 2};
        for (int i = 0; i < refusals.length; i++) {
            due(29, "refusals -" + (i + 1), x.count(11 + i), refusals[i]);
        }
    }
}
