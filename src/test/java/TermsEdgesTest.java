/**
 * The edges that the Terms of the document name, sentence by sentence: ranges, the letters of a
 * HALL and its FAULTS, KINDS, CHOICES, LAWS, VALUE. The numbers are worked out by hand.
 */
public final class TermsEdgesTest extends Checks {
    private static final int MIN = Integer.MIN_VALUE;
    private static final int MAX = Integer.MAX_VALUE;
    private static final int WIN = 1000000000;
    private static final String DIGITS = "0123456789";
    /** Each form of a STATEMENT: which letters are right at each of its places. */
    private static final String[][] FORMS = {
        {"p", DIGITS, "shtbok", DIGITS, DIGITS, DIGITS, ";"},
        {"c", DIGITS, DIGITS, ";"},
        {"l", "+-", DIGITS, ";"},
        {"b", DIGITS, ";"},
        {"f", DIGITS, DIGITS, ";"},
        {"o", DIGITS, DIGITS, ";"},
        {"r", DIGITS, ";"},
        {"w", DIGITS, ";"},
        {"d", DIGITS, ";"}};
    private static final String[] WORDS_OF_FORMS = {
        "\"p\" SIDE (a digit), a letter of a KIND, NEAR, FAR, FREE (a digit each): a PLAYER more",
        "\"c\" SECONDS (2 digits)", "\"l\" \"+\" or \"-\", LEAD (a digit)", "\"b\" BALL (a digit)",
        "\"f\" a SIDE, FOULS (a digit each)", "\"o\" a SIDE, CALLS (a digit each)",
        "\"r\" REBOUND (a digit)", "\"w\" LAW (a digit)", "\"d\" DRAW (a digit)"};
    private static final String[] WHOLE = {
        "p1k090;", "c05;", "l-1;", "b1;", "f14;", "o02;", "r7;", "w3;", "d0;"};

    public static void main(String[] args) {
        TermsEdgesTest test = new TermsEdgesTest();
        test.ranges();
        test.ofPlayers();
        test.howMuchAHallTakes();
        test.formsOfStatements();
        test.placesOfForm();
        test.placesOfRange();
        test.numbersOutOfRange();
        test.allOrNothing();
        test.kinds();
        test.whoHoldsAlone();
        test.choices();
        test.tooLate();
        test.whoHasTheBallThen();
        test.lamp();
        test.laws();
        test.value();
        test.end();
    }

    private void ranged(String quoted, int what, int most, int first) {
        sentence(quoted);
        NineteenSecondsLeft x = new NineteenSecondsLeft();
        due("at first", x.set(what, 0), first);
        due("the least", x.set(what, most), 0);
        due("the greatest", x.set(what, most), most);
        due("too small", x.set(what, -1), -4);
        due("far too small", x.set(what, MIN), -4);
        due("too large", x.set(what, most + 1), -6);
        due("far too large", x.set(what, MAX), -6);
        due("as it was", x.set(what, 0), most);
    }

    private void comes(String text, int what, int v) {
        NineteenSecondsLeft x = new NineteenSecondsLeft();
        due(text + " comes", tell(x, text), 1);
        due(text + " is told", x.set(what, v), v);
    }

    private void fault(String text, int want) {
        NineteenSecondsLeft x = new NineteenSecondsLeft();
        due(text, tell(x, text), want);
    }

    private void ranges() {
        ranged("SECONDS (0 .. 24: 19 at first)", 0, 24, 19);
        comes("c00;", 0, 0);
        comes("c24;", 0, 24);
        fault("c25;", -2000);
        ranged("LEAD of us (-6 .. 6: -1 at first)", 1, 12, 5);
        comes("l-6;", 1, 0);
        comes("l-0;", 1, 6);
        comes("l+0;", 1, 6);
        comes("l+6;", 1, 12);
        fault("l-7;", -2000);
        fault("l+7;", -2000);
        ranged("BALL (0 ours, 1 theirs: 0 at first)", 2, 1, 0);
        comes("b0;", 2, 0);
        comes("b1;", 2, 1);
        fault("b2;", -2000);
        ranged("FOULS of both (0 .. 5)", 3, 5, 0);
        ranged("FOULS of both (0 .. 5)", 4, 5, 0);
        comes("f00;", 3, 0);
        comes("f05;", 3, 5);
        comes("f15;", 4, 5);
        fault("f06;", -2000);
        fault("f16;", -2000);
        fault("f20;", -2000);
        ranged("CALLS of both (0 .. 2: 1 each at first)", 5, 2, 1);
        ranged("CALLS of both (0 .. 2: 1 each at first)", 6, 2, 1);
        comes("o00;", 5, 0);
        comes("o02;", 5, 2);
        comes("o12;", 6, 2);
        fault("o03;", -2000);
        fault("o13;", -2000);
        fault("o20;", -2000);
        ranged("REBOUND (0 .. 9 tenths that who missed has it again: 3 at first)", 7, 9, 3);
        comes("r0;", 7, 0);
        comes("r9;", 7, 9);
        ranged("LAW (0 .. 3: 0 at first)", 8, 3, 0);
        comes("w0;", 8, 0);
        comes("w3;", 8, 3);
        fault("w4;", -2000);
        ranged("DRAW (0 .. 9: what a draw is worth in tenths of a win: 5 at first)", 9, 9, 5);
        comes("d0;", 9, 0);
        comes("d9;", 9, 9);
        due("at first", game("c00;l+0;").here(), 500000000);
        due("the least", game("c00;l+0;d0;").here(), 0);
        due("the greatest", game("c00;l+0;d9;").here(), 900000000);
    }

    private void ofPlayers() {
        sentence("PLAYERS 0 .. 5 as they come (6 at most)");
        NineteenSecondsLeft x = new NineteenSecondsLeft();
        due("nobody at first", x.count(0), 0);
        for (int p = 0; p < 6; p++) {
            due("one more", tell(x, "p" + p % 2 + "s" + p + "00;"), 1);
            due("as many", x.count(0), p + 1);
            due("in their order", x.player(p, 2), p);
            due("none behind him", x.player(p + 1, 2), -1);
        }
        due("no seventh", tell(x, "p0s900;"), -2000);
        due("six", x.count(0), 6);
        due("the sixth as he was", x.player(5, 2), 5);
        NineteenSecondsLeft y = game("p0s000;".repeat(6));
        due("six at once", y.count(0), 6);
        fault("p0s000;".repeat(7), -2042);
        sentence("SIDE (0 ours, 1 theirs)");
        due("ours", game("p0s000;").player(0, 0), 0);
        due("theirs", game("p1s000;").player(0, 0), 1);
        fault("p2s000;", -2000);
        fault("p9s000;", -2000);
        sentence("NEAR, FAR, FREE (0 .. 9 tenths each)");
        NineteenSecondsLeft z = game("p0s000;p0s999;");
        for (int what = 2; what <= 4; what++) {
            due("the least", z.player(0, what), 0);
            due("the greatest", z.player(1, what), 9);
        }
    }

    private void howMuchAHallTakes() {
        sentence("A HALL is told in letters, one by one (96 at most)");
        NineteenSecondsLeft x = new NineteenSecondsLeft();
        String text = "p1k987;" + "b0;".repeat(27) + "c08;" + "l+6;";
        for (int i = 0; i < 96; i++) {
            due("letter " + i, x.letter(text.charAt(i)), i + 1);
        }
        due("one too many", x.letter(';'), -6);
        due("96 letters", x.hall(), 30);
        due("the last of them counts", x.count(3), 12);
        due("room again", x.letter('p'), 1);
        sentence("STATEMENTS, each with \";\" behind");
        for (String one : WHOLE) {
            fault(one.substring(0, one.length() - 1), -1000 - (one.length() - 1));
            fault(one.replace(';', ':') + one, -1000 - (one.length() - 1));
            fault(one.replace(";", "") + one, -1000 - (one.length() - 1));
            fault(one + ";", -1000 - one.length());
        }
        sentence("At least one STATEMENT");
        fault("", -1000);
        for (String one : WHOLE) {
            due("one: " + one, tell(new NineteenSecondsLeft(), one), 1);
        }
    }

    /** Each of 256 letters at each place of each form, alone and behind another STATEMENT. */
    private void formsOfStatements() {
        for (int k = 0; k < FORMS.length; k++) {
            sentence(WORDS_OF_FORMS[k]);
            for (int place = 1; place < FORMS[k].length; place++) {
                for (int c = 0; c < 256; c++) {
                    letterAt(k, place, (char) c, "");
                    letterAt(k, place, (char) c, "b1;");
                }
            }
        }
        sentence("FAULT: kind 1 the place of the first letter with which no HALL can go on");
        String firsts = "pclbforwd";
        for (int c = 0; c < 256; c++) {
            boolean begins = firsts.indexOf((char) c) >= 0;
            fault("" + (char) c, begins ? -1001 : -1000);
            fault("b0;" + (char) c, begins ? -1004 : -1003);
        }
    }

    private void letterAt(int k, int place, char c, String ahead) {
        String text = ahead + WHOLE[k].substring(0, place) + c;
        boolean goesOn = FORMS[k][place].indexOf(c) >= 0;
        boolean isWhole = goesOn && c == ';';
        int lacks = -1000 - text.length();
        fault(text, isWhole ? (ahead.isEmpty() ? 1 : 2) : goesOn ? lacks : lacks + 1);
    }

    private void placesOfForm() {
        sentence("FAULT: kind 1 the place of the first letter with which no HALL can go on");
        fault("c1x;l*", -1002);
        fault("c10;c1x;l*", -1006);
        fault("P1k090;", -1000);
        fault(" c10;", -1000);
        fault("c10; l+1;", -1004);
        fault("l,1;", -1001);
        fault("l.1;", -1001);
        sentence("(the end, if something lacks)");
        for (String one : WHOLE) {
            for (int size = 1; size < one.length(); size++) {
                fault(one.substring(0, size), -1000 - size);
                fault("d1;" + one.substring(0, size), -1003 - size);
            }
        }
        sentence("-1000 less the place");
        fault("", -1000);
        fault("x", -1000);
        fault("b0;".repeat(31) + "b0x", -1095);
        fault("b0;".repeat(31) + "c00", -1096);
        fault("b0;".repeat(31) + "xx;", -1093);
    }

    private void placesOfRange() {
        sentence("else kind 2 the place of the first letter of the first STATEMENT that, behind all "
                + "ahead of it in the text, is not as it must be");
        // Kind 1 is told ahead of kind 2, wherever it stands.
        fault("c25;b2;x", -1007);
        fault("c25;b2;c0", -1009);
        fault("p2s000;b", -1008);
        fault("c25;b2;", -2000);
        fault("c24;b2;c25;", -2004);
        fault("c24;b1;c25;b2;", -2007);
        fault("w3;f15;o12;l-6;o13;", -2015);
        sentence("(a number out of range, no room for more)");
        fault("p0s000;".repeat(6) + "p2s000;", -2042);
        fault("p0s000;".repeat(6) + "c25;", -2042);
        fault("c25;" + "p0s000;".repeat(7), -2000);
        fault("p0s000;".repeat(3) + "c24;" + "p1s000;".repeat(4), -2046);
        NineteenSecondsLeft x = game("p0s000;p1s000;");
        due("two are there, four more", tell(x, "p0s000;".repeat(3) + "b1;p0s000;"), 5);
        due("six are there, one more", tell(x, "b0;p0s000;"), -2003);
        due("five more than three", tell(game("p0s000;"), "p0s000;".repeat(6)), -2035);
        sentence("-2000 less the place");
        fault("b2;", -2000);
        fault("b0;".repeat(31) + "b2;", -2093);
    }

    private void numbersOutOfRange() {
        sentence("(a number out of range, no room for more)");
        for (int a = 0; a < 10; a++) {
            fault("b" + a + ";", a < 2 ? 1 : -2000);
            fault("r" + a + ";", 1);
            fault("w" + a + ";", a < 4 ? 1 : -2000);
            fault("d" + a + ";", 1);
            fault("l+" + a + ";", a < 7 ? 1 : -2000);
            fault("l-" + a + ";", a < 7 ? 1 : -2000);
            fault("p" + a + "s999;", a < 2 ? 1 : -2000);
            for (int b = 0; b < 10; b++) {
                fault("c" + a + b + ";", 10 * a + b < 25 ? 1 : -2000);
                fault("f" + a + b + ";", a < 2 && b < 6 ? 1 : -2000);
                fault("o" + a + b + ";", a < 2 && b < 3 ? 1 : -2000);
            }
        }
    }

    private void allOrNothing() {
        sentence("Without FAULT all of it comes, with one nothing");
        String text = "c11;l+4;b1;f03;f14;o02;o10;r8;w2;d7;p1h123;";
        int[] come = {11, 10, 1, 3, 4, 2, 0, 8, 2, 7};
        int[] first = {19, 5, 0, 0, 0, 1, 1, 3, 0, 5};
        String[] behind = {"", "c", "c25;", "x", "b2;", "p0s000;".repeat(6)};
        for (String more : behind) {
            NineteenSecondsLeft x = new NineteenSecondsLeft();
            boolean fault = tell(x, text + more) < 0;
            due("a FAULT with " + more, fault ? 1 : 0, more.isEmpty() ? 0 : 1);
            due("PLAYERS with " + more, x.count(0), fault ? 0 : 1);
            due("nobody with " + more, x.player(0, 4), fault ? -1 : 3);
            for (int what = 0; what < come.length; what++) {
                due(what + " with " + more, x.set(what, 0), fault ? first[what] : come[what]);
            }
        }
    }

    private void tenths(String kindAndOdds, int seconds, int near, int far, int free) {
        NineteenSecondsLeft x = game("p0" + kindAndOdds + ";");
        String what = kindAndOdds + " in " + seconds + " SECONDS, ";
        due(what + "NEAR", x.hits(0, 0, seconds), near);
        due(what + "FAR", x.hits(0, 1, seconds), far);
        due(what + "FREE", x.hits(0, 2, seconds), free);
    }

    private void kinds() {
        sentence("s SHOOTER: as told.");
        tenths("s000", 0, 0, 0, 0);
        tenths("s999", 24, 9, 9, 9);
        tenths("s180", 9, 1, 8, 0);
        sentence("h HOT under SHOOTER: 1 more each, 9 at most.");
        tenths("h000", 0, 1, 1, 1);
        tenths("h888", 24, 9, 9, 9);
        tenths("h999", 9, 9, 9, 9);
        tenths("h789", 10, 8, 9, 9);
        sentence("t TIRED under SHOOTER: 1 less each, 0 at least.");
        tenths("t000", 24, 0, 0, 0);
        tenths("t111", 0, 0, 0, 0);
        tenths("t999", 10, 8, 8, 8);
        tenths("t012", 9, 0, 0, 1);
        sentence("b BIG under SHOOTER: NEAR 2 more, 9 at most; FAR 0; FREE as told.");
        tenths("b000", 0, 2, 0, 0);
        tenths("b699", 24, 8, 0, 9);
        tenths("b711", 24, 9, 0, 1);
        tenths("b888", 10, 9, 0, 8);
        tenths("b990", 9, 9, 0, 0);
        sentence("o ROOKIE under TIRED: as a TIRED one; as a SHOOTER in SECONDS above 9.");
        for (int seconds = 0; seconds <= 24; seconds++) {
            int less = seconds > 9 ? 0 : 1;
            tenths("o999", seconds, 9 - less, 9 - less, 9 - less);
            tenths("o111", seconds, 1 - less, 1 - less, 1 - less);
            tenths("o000", seconds, 0, 0, 0);
        }
        sentence("k COLD under HOT: NEAR as a HOT one, FAR half of it, cut; FREE as told.");
        tenths("k000", 0, 1, 0, 0);
        tenths("k819", 24, 9, 1, 9);
        tenths("k921", 10, 9, 1, 1);
        tenths("k178", 9, 2, 4, 8);
        tenths("k188", 9, 2, 4, 8);
        tenths("k199", 9, 2, 4, 9);
    }

    private void whoHoldsAlone() {
        sentence("(none of his side: he HOLDS alone)");
        String[] texts = {"d4;", "p1s999;p1b999;d4;", "p0s999;p0b999;d4;"};
        for (String text : texts) {
            NineteenSecondsLeft x = game(text);
            for (int seconds = 1; seconds <= 24; seconds++) {
                for (int lead = 0; lead <= 12; lead += 3) {
                    for (int ball = 0; ball <= 1; ball++) {
                        if (!text.startsWith("p" + ball)) {
                            String at = text + " " + seconds + " " + lead + " " + ball;
                            due(at, x.best(seconds, lead, ball), 93);
                            due(at + " VALUE", x.of(seconds, lead, ball), endOf(lead, 4));
                        }
                    }
                }
            }
        }
    }

    private static long endOf(int lead, int draw) {
        return lead > 6 ? WIN : lead == 6 ? draw * 100000000L : 0;
    }

    private void choices() {
        sentence("0 NEAR: takes 4 SECONDS, his NEAR tenths, 2 points.");
        // FAR 0: NEAR alone hits; they have nobody, so that LEAD stays behind a hit.
        NineteenSecondsLeft near = game("p0s700;r0;d5;");
        due("1 behind, 4 SECONDS", near.of(4, 5, 0), 700000000);
        due("1 behind, 3 SECONDS", near.of(3, 5, 0), 0);
        due("2 behind: a draw", near.of(4, 4, 0), 350000000);
        due("3 behind", near.of(4, 3, 0), 0);
        due("0 tenths", game("p0s000;").of(4, 5, 0), 0);
        due("9 tenths", game("p0s900;").of(4, 5, 0), 900000000);
        near.set(7, 9);
        // Twice in 8 SECONDS: behind a miss 9 * 700000000 / 10; (7 * WIN + 3 * 630000000) / 10.
        due("twice in 8 SECONDS", near.of(8, 5, 0), 889000000);
        due("once in 7 SECONDS", near.of(7, 5, 0), 700000000);
        sentence("1 FAR under NEAR: 3 SECONDS, his FAR tenths, 3 points.");
        // FAR 1: QUICK has none.
        NineteenSecondsLeft far = game("p0s010;r0;d5;");
        due("2 behind, 3 SECONDS", far.of(3, 4, 0), 100000000);
        due("2 behind, 2 SECONDS", far.of(2, 4, 0), 0);
        due("3 behind: a draw", far.of(3, 3, 0), 50000000);
        due("4 behind", far.of(3, 2, 0), 0);
        due("9 tenths", game("p0s090;").of(3, 4, 0), 900000000);
        far.set(7, 9);
        // Behind a miss 9 * 100000000 / 10; (WIN + 9 * 90000000) / 10.
        due("twice in 6 SECONDS", far.of(6, 4, 0), 181000000);
        due("once in 5 SECONDS", far.of(5, 4, 0), 100000000);
        sentence("2 QUICK under FAR: 1 SECOND, half of his FAR tenths, cut, 3 points.");
        for (int tenths = 0; tenths < 10; tenths++) {
            NineteenSecondsLeft quick = game("p0s0" + tenths + "0;r0;d5;");
            due("FAR " + tenths, quick.of(1, 4, 0), tenths / 2 * 100000000L);
            due("FAR " + tenths + ", 3 behind", quick.of(1, 3, 0), tenths / 2 * 50000000L);
            due("FAR " + tenths + ", 4 behind", quick.of(1, 2, 0), 0);
            due("FAR " + tenths + ", the lamp", quick.of(0, 4, 0), 0);
        }
        sentence("3 HOLD: 5 SECONDS go by, he has it still (no PLAYER).");
        // They answer a hit from near by 9 tenths, in 4 SECONDS; so we HOLD if NEAR is left then.
        NineteenSecondsLeft hold = game("p0s500;p1s900;r0;d0;");
        due("4 are left of 9", hold.of(9, 5, 0), 500000000);
        due("HOLD then", hold.best(9, 5, 0), 93);
        // 3 are left of 8: NEAR now by 5 tenths, and they miss by 1 tenth.
        due("3 are left of 8", hold.of(8, 5, 0), 50000000);
        due("no HOLD then", hold.best(8, 5, 0), 0);
        due("4 are left of 14", hold.of(14, 5, 0), 500000000);
        due("he has it still", hold.of(24, 7, 0), WIN);
    }

    private void tooLate() {
        sentence("What takes more than the SECONDS left takes all of them");
        NineteenSecondsLeft x = game("p1s999;");
        for (int seconds = 1; seconds <= 5; seconds++) {
            x.set(0, seconds);
            x.row(9);
            x.row(3);
            x.row(9);
            x.row(3);
            due("HOLD in " + seconds + ": it has ended", x.judge(), 2);
        }
        x.set(0, 6);
        x.row(9);
        x.row(3);
        x.row(9);
        x.row(3);
        due("HOLD in 6: 1 is left", x.judge(), -9);
        sentence("such a shot is not off his hand ahead of the lamp: it ends with LEAD as it is");
        NineteenSecondsLeft y = game("p0s910;d5;r9;");
        for (int seconds = 1; seconds <= 2; seconds++) {
            // NEAR, FAR are too late, QUICK has 0 tenths.
            due("behind", y.of(seconds, 5, 0), 0);
            due("even", y.of(seconds, 6, 0), 500000000);
            due("ahead", y.of(seconds, 7, 0), WIN);
            y.set(0, seconds);
            y.set(1, 5);
            due("by NEAR or FAR alike", y.twoOrThree(), 0);
            y.set(1, 7);
            due("ahead by NEAR or FAR alike", y.twoOrThree(), 0);
        }
        due("FAR in 3", y.of(3, 4, 0), 100000000);
        due("NEAR in 3", y.of(3, 5, 0), 100000000);
        due("NEAR in 4", y.of(4, 5, 0), 900000000);
    }

    private void whoHasTheBallThen() {
        sentence("Behind a hit the other SIDE has the BALL");
        // NEAR by 9 tenths leaves them 1 of 5 SECONDS: QUICK by 4 tenths beats 2 ahead.
        due("they have it", game("p0s900;p1s090;c05;l+0;d0;r0;").here(), 540000000);
        due("we have it", game("p1s900;p0s090;c05;l+0;d9;r0;b1;").here(),
                mixed(9, mixed(4, WIN, 0), 940000000));
        sentence("behind a miss who shot has it again by REBOUND tenths, else the other SIDE");
        // QUICK by 2 tenths, again in the last SECOND.
        due("0", game("p0s040;c02;l+0;d0;r0;").here(), 200000000);
        due("3", game("p0s040;c02;l+0;d0;").here(), 248000000);
        due("9", game("p0s040;c02;l+0;d0;r9;").here(), 344000000);
        due("theirs, 0", game("p1s040;c02;l+0;d9;r0;b1;").here(), 720000000);
        due("theirs, 9", game("p1s040;c02;l+0;d9;r9;b1;").here(),
                mixed(2, 0, mixed(9, 720000000, 900000000)));
        sentence("LEAD is held to -6 .. 6.");
        for (String text : new String[] {"p0s999;p1s999;", "p0s999;", "p1s999;", "p0s999;p1s999;w3;"}) {
            NineteenSecondsLeft x = game(text);
            for (int seconds = 0; seconds <= 24; seconds++) {
                due(text + " 6 ahead", x.of(seconds, 12, 0), WIN);
                due(text + " 6 ahead, theirs", x.of(seconds, 12, 1), WIN);
                due(text + " 6 behind", x.of(seconds, 0, 0), 0);
                due(text + " 6 behind, theirs", x.of(seconds, 0, 1), 0);
            }
        }
        NineteenSecondsLeft x = game("p1s999;p0s999;c04;l-6;b1;");
        due("two FREE ones, 6 behind", x.foul(0), 0);
        x.set(1, 12);
        due("two FREE ones of ours, 6 ahead", x.freed(1), WIN);
    }

    private void lamp() {
        sentence("At 0 SECONDS it ends: we win if LEAD is above 0, it is a draw at 0.");
        NineteenSecondsLeft x = game("p0s999;p1s999;d3;");
        for (int lead = 0; lead <= 12; lead++) {
            for (int ball = 0; ball <= 1; ball++) {
                due("LEAD and 6 " + lead, x.of(0, lead, ball), endOf(lead, 3));
                due("no CHOICE there", x.best(0, lead, ball), -9);
                holds("1 SECOND is not the end", x.best(1, lead, ball) != -9);
            }
        }
        sentence("at an end 1000000000 if we win, DRAW times 100000000 at a draw, 0 else");
        for (int draw = 0; draw <= 9; draw++) {
            x.set(9, draw);
            due("1 ahead", x.of(0, 7, 1), 1000000000);
            due("a draw", x.of(0, 6, 0), draw * 100000000L);
            due("1 behind", x.of(0, 5, 0), 0);
        }
    }

    private void laws() {
        sentence("LAWS: 0 none;");
        NineteenSecondsLeft x = game("p0s999;p1s999;");
        for (int lead = 0; lead <= 12; lead++) {
            holds("no end ahead of the lamp", x.best(1, lead, 0) != -9 && x.best(24, lead, 1) != -9);
        }
        sentence("1 TARGET: it ends, too, when LEAD is 3 or more, -3 or less");
        x.set(8, 1);
        for (int lead = 0; lead <= 12; lead++) {
            boolean ends = lead <= 3 || lead >= 9;
            for (int seconds = 1; seconds <= 24; seconds++) {
                for (int ball = 0; ball <= 1; ball++) {
                    holds("LEAD and 6 " + lead, (x.best(seconds, lead, ball) == -9) == ends);
                    if (ends) {
                        due("VALUE, LEAD and 6 " + lead, x.of(seconds, lead, ball), endOf(lead, 5));
                    }
                }
            }
        }
        sentence("(of two FREE ones behind both alone)");
        // From 2 ahead the first one is a hit by 5 tenths: 3 or 4 ahead, it has ended then.
        due("from 2 ahead", game("p0s005;p1s090;c01;l+2;w1;").freed(0), 900000000);
        due("from 1 ahead, one of two", game("p0s005;p1s099;c01;l+1;w1;").freed(0),
                mixed(5, mixed(5, WIN, 600000000), mixed(5, 600000000, 600000000)));
        due("from 2 behind", game("p1s005;p0s090;c02;l-2;b1;w1;").foul(0),
                mixed(5, 0, mixed(5, 0, 400000000)));
        sentence("2 STOPPED: a hit takes 1 SECOND alone");
        // NEAR by 9 tenths in 4 SECONDS: 3 are left for their FAR by 5; a miss takes all 4.
        due("a hit", game("p0s900;p1s050;w2;c04;l+0;d0;r0;").here(), 450000000);
        // By NEAR a miss ends it; by FAR one leaves them a SECOND for QUICK by 4 tenths.
        due("a miss", game("p0s100;p1s090;w2;c04;l+0;d5;r0;").twoOrThree(),
                mixed(1, mixed(9, 0, WIN), 500000000) - mixed(4, 0, 500000000));
        due("NEAR in 3 is too late", game("p0s900;w2;c03;l+0;d0;").here(), 0);
        due("FAR in 2 is too late", game("p0s010;w2;c02;l+0;d0;").here(), 0);
        due("1 SECOND for QUICK", game("p0s090;w2;c01;l+0;d0;").here(), 400000000);
        sentence("3 NO FAR: FAR, QUICK bring 2 points.");
        NineteenSecondsLeft y = game("p0s080;w3;d5;r0;");
        due("FAR from 1 behind", y.of(3, 5, 0), 800000000);
        due("FAR from 2 behind: a draw", y.of(3, 4, 0), 400000000);
        due("FAR from 3 behind", y.of(3, 3, 0), 0);
        due("QUICK from 1 behind", y.of(1, 5, 0), 400000000);
        due("QUICK from 2 behind: a draw", y.of(1, 4, 0), 200000000);
        due("QUICK from 3 behind", y.of(1, 3, 0), 0);
    }

    private void value() {
        sentence("(we most, they least; of several the first by PLAYERS, of each by CHOICES 0, 1, 2, "
                + "HOLD behind all)");
        NineteenSecondsLeft x = game("p1s222;p0s444;p1s222;p0s444;");
        due("all alike, ours", x.best(1, 0, 0), 10);
        due("all alike, theirs", x.best(1, 12, 1), 0);
        due("QUICK of equals, ours", x.best(1, 6, 0), 12);
        due("QUICK of equals, theirs", x.best(1, 6, 1), 2);
        // In 3 SECONDS from 3 behind FAR by 4 tenths is more than QUICK; NEAR is too late.
        due("FAR of equals", x.best(3, 3, 0), 11);
        due("FAR ahead of QUICK", game("p0s011;l+6;").best(3, 0, 0), 0);
        // Even, all too late or without tenths: alike with HOLD.
        due("HOLD behind all", game("p0s000;").best(24, 6, 0), 0);
        due("HOLD that is more", game("p0s000;p1s090;").best(5, 7, 0), 93);
        due("we take the most", game("p0s100;p0s300;p0s200;").best(4, 5, 0), 10);
        due("they take the least", game("p1s100;p1s300;p1s200;").best(4, 7, 1), 10);
        sentence("a shot by t tenths: t times VALUE behind the hit and (10 less t) times VALUE behind "
                + "the miss, by 10, cut");
        cut(6, 7);
        cut(3, 3);
        cut(7, 7);
        sentence("REBOUND times that of who shot having it and (10 less REBOUND) times that of the "
                + "other, by 10, cut");
        cut(1, 9);
        cut(4, 6);
        cut(1, 3);
        cut(8, 0);
    }

    /**
     * NEAR alone hits and the other side holds to the lamp: six times in 24 SECONDS, with digits to
     * cut. First ours from even (a draw is worth nothing), then theirs (a draw is worth 9).
     */
    private void cut(int near, int rebound) {
        String text = "s" + near + "00;l+0;r" + rebound + ";";
        NineteenSecondsLeft ours = game("p0" + text + "d0;");
        NineteenSecondsLeft theirs = game("p1" + text + "d9;");
        long value = 0;
        long valueTheirs = 900000000;
        for (int times = 1; times <= 6; times++) {
            value = (near * 1000000000L + (10 - near) * (rebound * value / 10)) / 10;
            due("ours, " + text + " " + times + " times", ours.of(4 * times, 6, 0), value);
            long miss = (rebound * valueTheirs + (10 - rebound) * 900000000L) / 10;
            valueTheirs = (10 - near) * miss / 10;
            due("theirs, " + text + " " + times + " times", theirs.of(4 * times, 6, 1), valueTheirs);
        }
    }
}
