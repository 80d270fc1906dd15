/** Edges of what is seen, of games and years, of STATUS (Terms ==== 4; promises 39 to 44). */
final class EdgesOfGuesses {
    private static final String TERMS = "Terms";
    /** One a week: the first bar behind 19 weeks, the second behind 20. */
    private static final String SLOW = "piece 19 20;pupil 0 0 0;pupil 0 0 0;learns 1;";

    private EdgesOfGuesses() {
    }

    static void all(Book book) {
        seen(book);
        beenByOne(book);
        been(book);
        listen(book);
        forget(book);
        gameTogether(book);
        gameAtRest(book);
        game(book);
        yearsByDraws(book);
        draws(book);
        years(book);
        status(book);
        calls(book);
    }

    private static void seen(Book book) {
        book.edge(TERMS, "SEEN (at most 8): that a PUPIL had so many BARS done (0 to 8) behind so many WEEKS (1 to 20).", () -> {
            BaizeDoor x = Desk.told(SLOW);
            for (int bars = -1; bars <= 9; bars++) {
                Desk.due("bars " + bars, x.see(0, 1, bars), bars >= 0 && bars <= 8 ? 1 : -1);
                x.forget();
            }
            for (int weeks = 0; weeks <= 21; weeks++) {
                Desk.due("weeks " + weeks, x.see(0, weeks, 0), weeks >= 1 && weeks <= 20 ? 1 : -1);
                x.forget();
            }
            for (int i = 1; i <= 8; i++) Desk.due("the " + i + "th", x.see(1, i, 0), i);
            Desk.due("the ninth", x.see(1, 9, 0), -1);
            Desk.due("eight", x.count(8), 8);
        });
        book.edge(39, "SEEN: how much is. NONE (STATUS 2): there are 8, not 0 to 8, not 1 to 20.", () -> {
            BaizeDoor x = Desk.told(SLOW);
            int[][] no = {{1, -1}, {1, 9}, {0, 1}, {-1, 1}, {21, 1}, {1, Integer.MAX_VALUE}, {Integer.MIN_VALUE, 1}};
            for (int i = 0; i < no.length; i++) {
                Desk.due("see(0, " + no[i][0] + ", " + no[i][1] + ")", x.see(0, no[i][0], no[i][1]), -1);
                Desk.due("status 2", x.count(12), i + 1);
                Desk.due("none is", x.count(8), 0);
            }
            for (int i = 1; i <= 8; i++) Desk.due("how much is", x.see(0, 20, 8), i);
            String before = Desk.view(x);
            Desk.due("there are 8", x.see(0, 1, 0), -1);
            Desk.due("status 2", x.count(12), no.length + 1);
            Desk.due("status 0, 1", x.count(10) + x.count(11), 0);
            Desk.due("all stays", Desk.view(x), before);
            Desk.due("it is no act", x.count(7), 0);
        });
        book.edge(39, "NoSuchElementException (ahead): no such PUPIL.", () -> {
            BaizeDoor x = Desk.told(SLOW);
            for (int p : new int[] {-1, 2, Integer.MIN_VALUE, Integer.MAX_VALUE}) {
                Desk.absent("see(" + p + ", 1, 0)", () -> x.see(p, 1, 0));
                Desk.absent("no such weeks", () -> x.see(p, 0, 0));
                Desk.absent("no such bars", () -> x.see(p, 1, 9));
            }
            for (int i = 0; i < 8; i++) x.see(0, 1, 0);
            Desk.absent("there are 8", () -> x.see(2, 1, 0));
            Desk.due("status 2", x.count(12), 0);
        });
    }

    private static void beenByOne(Book book) {
        book.edge(TERMS, "BEEN: PUPILS and WEEKS (1 to 20 from now, in which one isn't AWAY) by one of which, were one AWAY "
            + "in it (without having practised there), all SEEN would be so", () -> {
            BaizeDoor x = Desk.told(SLOW);
            Desk.due("nothing seen: twenty of each", x.been(0), 40);
            x.see(0, 20, 1);
            Desk.due("19 practised, in whichever one wasn't", x.been(0) * 1000 + x.been(1), 20001);
            x.see(0, 19, 1);
            Desk.due("in none of the first 19", x.been(0) * 1000 + x.been(1), 1020);
            x.see(1, 20, 1);
            Desk.due("by one alone, not by two", x.been(0), 0);
            x.forget();
            x.door(0, 20);
            x.door(1, 1);
            Desk.due("but where one is away", x.been(0), 38);
            Desk.due("not in the first of pupil 1", x.been(1), 1);
            x.door(0, 21);
            Desk.due("the 21st is none of these", x.been(0), 38);
        });
        book.edge(TERMS, "how many; the first (100 by the PUPIL, and the WEEK); whether it is so without (1).", () -> {
            BaizeDoor x = Desk.told("piece 19 20;" + "pupil 0 0 0;".repeat(7) + "learns 1;");
            Desk.due("all", x.been(0), 140);
            Desk.due("the very first", x.been(1), 1);
            Desk.due("so without", x.been(2), 1);
            x.see(6, 20, 1);
            x.see(6, 19, 1);
            Desk.due("the very last", x.been(0) * 1000 + x.been(1), 1620);
            Desk.due("not so without", x.been(2), 0);
            x.forget();
            x.see(0, 20, 2);
            Desk.due("all others' weeks", x.been(0), 120);
            Desk.due("pupil 1, week 1", x.been(1), 101);
            Desk.due("so without", x.been(2), 1);
        });
    }

    private static void been(Book book) {
        book.edge(40, "BEEN: how many (what 0), the first (1; NONE: none), whether without (2).", () -> {
            BaizeDoor x = Desk.told(SLOW);
            x.see(0, 1, 8);
            Desk.due("how many", x.been(0), 0);
            Desk.due("the first", x.been(1), -1);
            Desk.due("whether without", x.been(2), 0);
            BaizeDoor y = new BaizeDoor();
            Desk.due("of nobody", y.been(0), 0);
            Desk.due("of nobody", y.been(1), -1);
            Desk.due("of nobody", y.been(2), 1);
        });
        book.edge(40, "NoSuchElementException: another what.", () -> {
            BaizeDoor x = Desk.told(SLOW);
            for (int what : new int[] {-1, 3, Integer.MIN_VALUE, Integer.MAX_VALUE}) {
                Desk.absent("been(" + what + ")", () -> x.been(what));
                Desk.absent("of nobody", () -> new BaizeDoor().been(what));
            }
        });
    }

    private static void listen(Book book) {
        book.edge(TERMS, "LISTEN NEXT: the PUPIL whose SKILL behind 20 WEEKS would by these be most unlike (of like ones "
            + "the least): how many unlike ones; none without any.", () -> {
            BaizeDoor x = Desk.told(SLOW);
            Desk.due("19 or 20, of both", x.listen(0) * 10 + x.listen(1), 2);
            x.see(1, 20, 1);
            Desk.due("pupil 1 has 19, pupil 0 has 20", x.listen(0) * 10 + x.listen(1), 1);
            x.see(1, 1, 8);
            Desk.due("none", x.listen(0), -1);
            Desk.due("none unlike", x.listen(1), 0);
            BaizeDoor y = Desk.told("piece 50;pupil 0 0 0;pupil 0 0 0;learns away;");
            Desk.due("0 to 19, of both", y.listen(0) * 100 + y.listen(1), 20);
            y.door(0, 20);
            // Away in the 20th already, pupil 0 has 19 weeks that could be told apart.
            Desk.due("the other one", y.listen(0) * 100 + y.listen(1), 120);
            BaizeDoor z = Desk.told("piece 50;pupil 0 0 0;learns away;");
            Desk.due("0 to 19, alone", z.listen(0) * 100 + z.listen(1), 20);
            BaizeDoor seven = Desk.told("piece 50;" + "pupil 99 0 0;".repeat(6) + "pupil 0 0 0;learns 1;");
            Desk.due("the last of seven", seven.listen(0) * 100 + seven.listen(1), 602);
        });
        book.edge(41, "LISTEN NEXT: the PUPIL (what 0; NONE), how many (1; 0: none).", () -> {
            Desk.due("nobody", new BaizeDoor().listen(0), -1);
            Desk.due("nobody", new BaizeDoor().listen(1), 0);
            BaizeDoor x = Desk.told("piece 9;pupil 99 0 0;");
            Desk.due("one skill alone", x.listen(0) * 10 + x.listen(1), 1);
        });
        book.edge(41, "NoSuchElementException: another what.", () -> {
            BaizeDoor x = Desk.told(SLOW);
            for (int what : new int[] {-1, 2, Integer.MIN_VALUE, Integer.MAX_VALUE}) {
                Desk.absent("listen(" + what + ")", () -> x.listen(what));
                Desk.absent("of nobody", () -> new BaizeDoor().listen(what));
            }
        });
    }

    private static void forget(Book book) {
        book.edge(42, "All that is SEEN is forgotten.", () -> {
            BaizeDoor x = Desk.told(SLOW);
            x.forget();
            Desk.due("nothing was", x.count(8), 0);
            for (int i = 0; i < 9; i++) x.see(0, 1, 8);
            Desk.due("eight", x.count(8) * 10 + x.been(2), 80);
            x.forget();
            Desk.due("none", x.count(8), 0);
            Desk.due("so without", x.been(2), 1);
            Desk.due("room again", x.see(0, 20, 2), 1);
            Desk.due("so without", x.been(2), 1);
            Desk.due("status stays", x.count(12), 1);
        });
    }

    /** Who goes has 13 behind 10 weeks, and 14 behind 11; who doesn't has 10. */
    private static String soreHelps(int hard, String more) {
        return "piece " + hard + ";pupil 0 0 0;pupil 0 0 0;pupil 0 0 0;learns 1+sore;" + more;
    }

    private static void gameIs(String what, BaizeDoor x, int pupil, int other, int many, int first) {
        Desk.due(what + ": how many", x.game(pupil, other, 0), many);
        Desk.due(what + ": the first", x.game(pupil, other, 1), first);
    }

    private static void gameTogether(Book book) {
        book.edge(TERMS, "A GAME of two PUPILS at the next WEEK: each goes through THE DOOR to it now, if one could, or not "
            + "(1, 0)", () -> {
            gameIs("both go", Desk.told(soreHelps(13, "")), 0, 1, 1, 11);
            BaizeDoor x = Desk.told(soreHelps(13, ""));
            x.door(2, 2);
            gameIs("another week doesn't count", x, 0, 1, 1, 11);
            // One who is away in the next week is away in none to come then, and has 10; in a later one it were 15.
            gameIs("to the next", Desk.told("piece 11;pupil 0 0 0;pupil 0 0 0;learns 1+away*5;"), 0, 1, 4, 0);
        });
        book.edge(TERMS, "if both do, and there is one PIANO left alone, the lesser one goes, the other one is only 2 more "
            + "SORE", () -> {
            // Behind 10 weeks who goes has 52, who stays 40, who is only sore 32.
            String going = "piece 35 50;" + "pupil 0 0 0;".repeat(3)
                + "learns 20*(sore=2)*(0<skill)+4*(sore=0);pianos ";
            gameIs("the lesser one", Desk.told(going + "1;"), 0, 1, 1, 10);
            gameIs("told the other way round", Desk.told(going + "1;"), 1, 0, 1, 1);
            gameIs("two are left", Desk.told(going + "2;"), 0, 1, 1, 11);
            BaizeDoor x = Desk.told(going + "2;");
            x.door(2, 1);
            gameIs("one of two is left", x, 0, 1, 1, 10);
            BaizeDoor z = Desk.told("piece 20;piece 99;pupil 0 0 1;pupil 0 0 0;pianos 1;learns 20*(sore=3)+2*(sore=0);");
            gameIs("2 more, not 3: where the other one stays", z, 0, 1, 2, 0);
            // 1 1 2 2 3 3 4 4 5 5: 30 behind 10 weeks, if 9 stays 9. One who goes has 26.
            BaizeDoor y = Desk.told("piece 30;pupil 0 0 0;pupil 0 9 0;pianos 1;");
            gameIs("9 at most: all but where the other one goes alone", y, 0, 1, 3, 0);
        });
        book.edge(TERMS, "each gains BARS done in the next 10 WEEKS.", () -> {
            gameIs("13 in 10 weeks", Desk.told(soreHelps(13, "")), 0, 1, 1, 11);
            gameIs("14 isn't", Desk.told(soreHelps(14, "")), 0, 1, 4, 0);
        });
    }

    private static void gameAtRest(Book book) {
        book.edge(TERMS, "A couple RESTS, if neither gains more by the other choice (who couldn't go has 0 alone)", () -> {
            gameIs("nothing to gain", Desk.told("piece 99;pupil 0 0 0;pupil 0 0 0;"), 0, 1, 4, 0);
            gameIs("only staying", Desk.told("piece 50;pupil 0 0 0;pupil 0 0 0;"), 0, 1, 1, 0);
            BaizeDoor x = Desk.told(soreHelps(13, "pianos 1;"));
            x.door(2, 1);
            gameIs("neither could", x, 0, 1, 1, 0);
            x.pianos(2);
            gameIs("one is away", x, 2, 0, 1, 1);
            gameIs("one is away", x, 0, 2, 1, 10);
            BaizeDoor y = Desk.told("piece 99;pupil 0 0 0;pupil 0 0 0;pianos 4;");
            y.door(1, 1);
            gameIs("either, with one who is away", y, 0, 1, 2, 0);
            y.door(0, 1);
            gameIs("both are away", y, 0, 1, 1, 0);
        });
        book.edge(TERMS, "how many; the first (10 by the first one's, and the other one's).", () -> {
            BaizeDoor x = Desk.told("piece 13;piece 50;piece 99;pupil 0 0 0;pupil 0 0 1;pupil 0 0 2;learns 1+sore;");
            gameIs("the first one goes, the other one may", x, 0, 1, 2, 10);
            gameIs("the other one goes, the first one may", x, 1, 0, 2, 1);
        });
    }

    private static void game(Book book) {
        book.edge(43, "A GAME: how many couples rest (what 0), the first (1; NONE: none). NoSuchElementException: also "
            + "another what.", () -> {
            BaizeDoor x = Desk.told(soreHelps(13, ""));
            gameIs("the last couple", x, 1, 2, 1, 11);
            for (int what : new int[] {-1, 2, Integer.MAX_VALUE}) Desk.absent("what " + what, () -> x.game(0, 1, what));
            Desk.absent("pupil 3", () -> x.game(3, 0, 0));
            Desk.absent("other 3", () -> x.game(0, 3, 0));
            Desk.absent("pupil -1", () -> x.game(-1, 0, 0));
            Desk.absent("other -1", () -> x.game(0, -1, 0));
        });
        book.edge(43, "IllegalArgumentException (behind that): both are one.", () -> {
            BaizeDoor x = Desk.told(soreHelps(13, ""));
            for (int p = 0; p < 3; p++) {
                int who = p;
                Desk.illegal("both are " + p, () -> x.game(who, who, 0));
                Desk.illegal("both are " + p, () -> x.game(who, who, 1));
                Desk.absent("ahead: what 2", () -> x.game(who, who, 2));
            }
            Desk.absent("ahead: both are 3", () -> x.game(3, 3, 0));
            Desk.absent("ahead: both are -1", () -> x.game(-1, -1, 1));
        });
    }

    private static int next(int seed) {
        return seed * 1103515245 + 12345;
    }

    private static int draw(int seed, int n) {
        return (seed >>> 16 & 0x7fff) % n;
    }

    /** The least seed from 0 on whose draws are these: of how many, which. */
    private static int seedOf(int... draws) {
        for (int seed = 0;; seed++) {
            int s = seed;
            boolean all = true;
            for (int i = 0; i < draws.length && all; i += 2) {
                s = next(s);
                all = draw(s, draws[i]) == draws[i + 1];
            }
            if (all) return seed;
        }
    }

    private static void yearsByDraws(Book book) {
        book.edge(TERMS, "ahead of each a DRAW of 5: 0 a DRAW of PUPILS goes through THE DOOR to a DRAW of 30 and 1, if one "
            + "could", () -> {
            BaizeDoor x = Desk.told("piece 99;pupil 10 0 0;pupil 10 0 0;pianos 1;learns 3;");
            Desk.due("3: nothing", x.years(seedOf(5, 3), 1, 2), 26);
            Desk.due("4: nothing", x.years(seedOf(5, 4), 1, 2), 26);
            Desk.due("to the first: practised now, away then", x.years(seedOf(5, 0, 2, 1, 30, 0), 1, 2), 26);
            Desk.due("to the second: both", x.years(seedOf(5, 0, 2, 1, 30, 1), 1, 2), 29);
            Desk.due("to the thirtieth", x.years(seedOf(5, 0, 2, 0, 30, 29), 1, 2), 29);
            x.door(0, 30);
            Desk.due("one is away", x.years(seedOf(5, 0, 2, 0, 30, 29), 1, 2), 29);
            Desk.due("no piano", x.years(seedOf(5, 0, 2, 1, 30, 29), 1, 2), 29);
            Desk.due("another week", x.years(seedOf(5, 0, 2, 1, 30, 28), 1, 2), 32);
            x.pianos(2);
            Desk.due("one more piano", x.years(seedOf(5, 0, 2, 1, 30, 29), 1, 2), 32);
        });
        book.edge(TERMS, "1 a DRAW of PUPILS is 3 more SORE (9 at most)", () -> {
            int[] sore = {0, 5, 6, 7, 9};
            int[] due = {3, 8, 9, 9, 9};
            for (int i = 0; i < sore.length; i++) {
                BaizeDoor x = Desk.told("piece 99;pupil 0 0 0;pupil 0 " + sore[i] + " 0;learns sore;");
                Desk.due("from " + sore[i], x.years(seedOf(5, 1, 2, 1), 1, 2), due[i]);
                Desk.due("the other one", x.years(seedOf(5, 1, 2, 0), 1, 2), 3 + sore[i]);
            }
        });
        book.edge(TERMS, "2 a DRAW of PUPILS gets GLOVES of 3", () -> {
            int[] sore = {0, 2, 3, 4, 9};
            int[] due = {0, 0, 0, 1, 6};
            for (int i = 0; i < sore.length; i++) {
                BaizeDoor x = Desk.told("piece 99;pupil 0 0 0;pupil 0 " + sore[i] + " 0;learns sore;");
                Desk.due("from " + sore[i], x.years(seedOf(5, 2, 2, 1), 1, 2), due[i]);
                Desk.due("the other one", x.years(seedOf(5, 2, 2, 0), 1, 2), sore[i]);
            }
        });
        book.edge(TERMS, "BARS done in these WEEKS; how many PIECES are done at the end; SKILL of all.", () -> {
            BaizeDoor x = Desk.told("piece 1 1;study 1 1;pupil 95 9 0;pupil 95 9 1;");
            int nothing = seedOf(5, 3, 5, 4);
            int[] due = {0, 0, 190, 3, 1, 192, 4, 2, 194};
            for (int i = 0; i < 9; i++) Desk.due("n " + i / 3 + ", what " + i % 3, x.years(nothing, i / 3, i % 3), due[i]);
            x.weeks(1);
            Desk.due("bars done ahead don't count", x.years(nothing, 1, 0), 1);
            Desk.due("pieces done ahead do", x.years(nothing, 0, 1), 1);
            BaizeDoor seven = Desk.told("study 9 9;" + "pupil 9 9 0;".repeat(7) + "learns 1;");
            int[] all = {14, 7, 70};
            for (int i = 0; i < 3; i++) Desk.due("of seven, what " + i, seven.years(nothing, 1, i), all[i]);
        });
    }

    /** The skill of one who learns 1 by each practising, behind n weeks by a seed. */
    private static int skillByYears(int seed, int n) {
        int skill = 0;
        boolean[] away = new boolean[100];
        for (int w = 0; w < n; w++) {
            seed = next(seed);
            int chance = draw(seed, 5);
            if (chance <= 2) seed = next(seed);
            if (chance == 0) {
                seed = next(seed);
                int k = w + draw(seed, 30);
                if (!away[k]) skill++;
                away[k] = true;
            }
            if (!away[w]) skill++;
        }
        return skill;
    }

    private static void draws(Book book) {
        book.edge(TERMS, "YEARS by a seed: n WEEKS (0 to 60) from now on", () -> {
            BaizeDoor x = Desk.told("piece 99;pupil 0 0 0;learns 1;");
            for (int n = 0; n <= 60; n++) Desk.due("n " + n, x.years(5, n, 2), skillByYears(5, n));
        });
        book.edge(TERMS, "A seed becomes itself times 1103515245 and 12345 (an int that wraps); a DRAW of n is its bits 16 "
            + "to 30 MOD n then.", () -> {
            BaizeDoor x = Desk.told("piece 99;pupil 0 0 0;learns 1;");
            int[] seeds = {0, 1, -1, 2, 65536, 1 << 30, Integer.MAX_VALUE, Integer.MIN_VALUE, -1103515245, 123456789};
            for (int seed : seeds) Desk.due("seed " + seed, x.years(seed, 60, 2), skillByYears(seed, 60));
            Desk.due("the same again", x.years(7, 60, 2), skillByYears(7, 60));
            Desk.due("the same again", x.years(7, 60, 2), skillByYears(7, 60));
        });
        book.edge(TERMS, "(Without PUPILS just the DRAWS of 5 are made.)", () -> {
            BaizeDoor x = Desk.told("piece 99;");
            for (int what = 0; what < 3; what++) Desk.due("what " + what, x.years(0, 60, what), 0);
            for (int what = 0; what < 3; what++) Desk.due("a new object", new BaizeDoor().years(-1, 60, what), 0);
        });
    }

    private static void years(Book book) {
        book.edge(44, "YEARS: BARS (what 0), PIECES done (1), SKILL (2). NoSuchElementException: another what.", () -> {
            BaizeDoor x = Desk.told("piece 1;pupil 5 0 0;learns 0;");
            x.weeks(1);
            Desk.due("bars", x.years(1, 60, 0), 0);
            Desk.due("pieces done", x.years(1, 60, 1), 1);
            Desk.due("skill", x.years(1, 60, 2), 5);
            for (int what : new int[] {-1, 3, Integer.MAX_VALUE}) Desk.absent("what " + what, () -> x.years(1, 1, what));
            String before = Desk.view(x);
            x.years(0, 60, 0);
            Desk.due("all stays", Desk.view(x), before);
        });
        book.edge(44, "IllegalArgumentException (behind that): n.", () -> {
            BaizeDoor x = Desk.told(SLOW);
            for (int n : new int[] {-1, 61, Integer.MIN_VALUE, Integer.MAX_VALUE}) {
                Desk.illegal("n " + n, () -> x.years(1, n, 0));
                Desk.illegal("of nobody", () -> new BaizeDoor().years(1, n, 2));
                Desk.absent("ahead: what 3", () -> x.years(1, n, 3));
                Desk.absent("ahead: what -1", () -> x.years(1, n, -1));
            }
        });
    }

    private static void status(Book book) {
        book.edge(TERMS, "STATUS: how many calls were refused: 0 TEXTS with a FAULT, 1 ACTS, 2 what is SEEN.", () -> {
            BaizeDoor x = Desk.told(SLOW);
            Desk.tell(x, "x");
            for (int i = 0; i < 2; i++) x.see(0, 0, 0);
            x.weeks(0);
            x.door(0, 0);
            x.gloves(0, 0);
            x.begin(0, 0);
            x.pianos(0);
            x.undo();
            x.restore();
            for (int i = 0; i < 36; i++) x.feed(0, 0, 0, 0, 0);
            Desk.illegal("school(-1)", () -> x.school(-1));
            Desk.absent("door(2, 0)", () -> x.door(2, 0));
            Desk.absent("see(2, 0, 0)", () -> x.see(2, 0, 0));
            Desk.due("what throws, feed(), undo() and restore() aren't in it", x.count(10) * 100 + x.count(11) * 10
                + x.count(12), 152);
        });
        book.edge(TERMS, "`NONE = -1`: There is none.", () -> Desk.due("NONE", BaizeDoor.NONE, -1));
    }

    private static void calls(Book book) {
        book.edge("What it is", "An object is used for at most 512 calls after it has been made", () -> {
            BaizeDoor x = new BaizeDoor();
            x.feed(0x70696563, 0x65203939, 0x3b707570, 0x696c2030, 0x20302030);
            x.feed(0x3b6c6561, 0x726e7320, 0x313b2020, 0x20202020, 0x20202020);
            Desk.due("the third call", x.school(40), 0);
            for (int i = 4; i <= 510; i++) x.weeks(1);
            Desk.due("the 511th call", x.weeks(1), 508);
            Desk.due("the 512th call", x.undo(), 39);
        });
    }
}
