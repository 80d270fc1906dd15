/** Edges of what comes, if only weeks go by, of the door ahead, of pieces and concerts (Terms ==== 3; 15 to 38). */
final class EdgesOfAhead {
    private static final String TERMS = "Terms";
    private static final int ALL_WEEKS = (1 << 30) - 1;
    private static final int[] NOT_0_TO_60 = {-1, 61, Integer.MIN_VALUE, Integer.MAX_VALUE};
    private static final int[] NOT_1_TO_60 = {0, -1, 61, Integer.MIN_VALUE, Integer.MAX_VALUE};
    private static final int[] NOT_0_TO_30 = {-1, 31, Integer.MIN_VALUE, Integer.MAX_VALUE};
    private static final int[] NOT_1_TO_30 = {0, -1, 31, Integer.MIN_VALUE, Integer.MAX_VALUE};
    /** One a week: bars of 60 and 61 are done behind as many weeks. */
    private static final String SLOW = "piece 60;piece 61;piece 1;pupil 0 0 0;pupil 0 0 1;pupil 0 0 2;learns 1;";

    private EdgesOfAhead() {
    }

    static void all(Book book) {
        then(book);
        done(book);
        heard(book);
        best(book);
        stuck(book);
        free(book);
        nobody(book);
        through(book);
        toBeDone(book);
        toBeDoneByTheLast(book);
        fits(book);
        repertoire(book);
        choice(book);
        hardest(book);
        concert(book);
        duet(book);
        next(book);
        rush(book);
        sorest(book);
        toGlove(book);
        full(book);
        empty(book);
        common(book);
        workAndMates(book);
    }

    private static void then(Book book) {
        book.edge(TERMS, "THEN, behind so many WEEKS (0 to 60): SKILL, BARS that are done, SORE of a PUPIL.", () -> {
            BaizeDoor x = Desk.told("piece 1 60;pupil 0 9 0;learns 1;");
            int[] weeks = {0, 1, 8, 9, 10, 59, 60};
            int[] bars = {0, 1, 1, 1, 1, 1, 2};
            int[] sore = {9, 8, 1, 0, 0, 0, 0};
            for (int i = 0; i < weeks.length; i++) {
                Desk.due("skill behind " + weeks[i], x.then(0, weeks[i], 0), weeks[i]);
                Desk.due("bars behind " + weeks[i], x.then(0, weeks[i], 1), bars[i]);
                Desk.due("sore behind " + weeks[i], x.then(0, weeks[i], 2), sore[i]);
            }
        });
        book.edge(15, "THEN: SKILL (what 0), BARS (1), SORE (2). NoSuchElementException: also another what.", () -> {
            BaizeDoor x = Desk.told("study 1 2;pupil 40 7 0;");
            Desk.due("what 0", x.then(0, 1, 0), 42);
            Desk.due("what 1", x.then(0, 1, 1), 2);
            Desk.due("what 2", x.then(0, 1, 2), 6);
            for (int what : new int[] {-1, 3, Integer.MAX_VALUE}) Desk.absent("what " + what, () -> x.then(0, 0, what));
        });
        book.edge(15, "IllegalArgumentException (behind that): not 0 to 60.", () -> {
            BaizeDoor x = Desk.told("study 1 2;pupil 40 7 0;");
            for (int weeks : NOT_0_TO_60) {
                Desk.illegal("weeks " + weeks, () -> x.then(0, weeks, 2));
                Desk.absent("ahead: what 3", () -> x.then(0, weeks, 3));
                Desk.absent("ahead: pupil 1", () -> x.then(1, weeks, 0));
                Desk.absent("ahead: pupil -1", () -> x.then(-1, weeks, 0));
            }
        });
    }

    private static void done(Book book) {
        book.edge(TERMS, "DONE: behind how many WEEKS (0 to 60) the PIECE of one is; none.", () -> {
            BaizeDoor x = Desk.told(SLOW);
            Desk.due("60", x.done(0), 60);
            Desk.due("61", x.done(1), -1);
            Desk.due("1", x.done(2), 1);
            x.weeks(1);
            Desk.due("0", x.done(2), 0);
            Desk.due("60 now", x.done(1), 60);
        });
        book.edge(16, "DONE; NONE: none.", () -> {
            BaizeDoor x = Desk.told("piece 1 50;study 1;pupil 5 0 0;pupil 5 0 1;learns 0;");
            Desk.due("never", x.done(0), -1);
            Desk.due("at once", x.done(1), 1);
        });
    }

    private static void heard(Book book) {
        book.edge(TERMS, "HEARD in so many WEEKS (0 to 60): how many BARS of all PUPILS are done in them.", () -> {
            BaizeDoor x = Desk.told(SLOW);
            Desk.due("in 0", x.heard(0), 0);
            Desk.due("in 1", x.heard(1), 1);
            Desk.due("in 59", x.heard(59), 1);
            Desk.due("in 60", x.heard(60), 2);
            x.weeks(1);
            Desk.due("what was done ahead isn't heard", x.heard(1), 0);
            Desk.due("nobody's", new BaizeDoor().heard(60), 0);
        });
        book.edge(17, "IllegalArgumentException: not 0 to 60.", () -> {
            BaizeDoor x = Desk.told(SLOW);
            for (int weeks : NOT_0_TO_60) {
                Desk.illegal("heard(" + weeks + ")", () -> x.heard(weeks));
                Desk.illegal("of nobody", () -> new BaizeDoor().heard(weeks));
            }
        });
    }

    private static void best(Book book) {
        // The other one gains on the first one by 1 a week.
        String race = "piece 99;piece 99 99;pupil 59 0 0;pupil 0 0 1;learns bars-1;";
        book.edge(TERMS, "BEST: who has most SKILL behind so many WEEKS (0 to 60; of like ones the least); none.", () -> {
            BaizeDoor x = Desk.told(race);
            Desk.due("behind 0", x.best(0), 0);
            Desk.due("behind 59 both have 59", x.best(59), 0);
            Desk.due("behind 60", x.best(60), 1);
            Desk.due("like ones", Desk.told("piece 9;pupil 1 0 0;pupil 2 0 0;pupil 2 0 0;").best(0), 1);
            Desk.due("all 0", Desk.told("piece 9;pupil 0 0 0;pupil 0 0 0;").best(0), 0);
            Desk.due("nobody", Desk.told("piece 9;").best(60), -1);
        });
        book.edge(18, "BEST; NONE: none. IllegalArgumentException: not 0 to 60.", () -> {
            BaizeDoor x = Desk.told(race);
            for (int weeks : NOT_0_TO_60) {
                Desk.illegal("best(" + weeks + ")", () -> x.best(weeks));
                Desk.illegal("of nobody", () -> new BaizeDoor().best(weeks));
            }
            Desk.due("none", new BaizeDoor().best(0), -1);
        });
    }

    private static void stuck(Book book) {
        book.edge(TERMS, "STUCK: PUPILS whose PIECE isn't done behind 60 WEEKS (bits).", () -> {
            BaizeDoor x = Desk.told(SLOW);
            Desk.due("61", x.stuck(), 2);
            x.door(0, 30);
            Desk.due("away in one, practised for it", x.stuck(), 2);
            x.weeks(1);
            Desk.due("60", x.stuck(), 0);
        });
        book.edge(19, "STUCK, as bits.", () -> {
            Desk.due("all seven", Desk.told("piece 9;" + "pupil 0 0 0;".repeat(7) + "learns 0;").stuck(), 127);
            Desk.due("nobody", new BaizeDoor().stuck(), 0);
        });
    }

    private static void free(Book book) {
        book.edge(TERMS, "FREE for a PUPIL: WEEKS (the k-th: bit k less 1) of the next 30 to which one could go.", () -> {
            BaizeDoor x = Desk.told("piece 99;pupil 0 0 0;pupil 0 0 0;pianos 1;");
            Desk.due("all", x.free(0), ALL_WEEKS);
            x.door(0, 1);
            x.door(1, 30);
            int left = ALL_WEEKS - 1 - (1 << 29);
            Desk.due("but the first and the last", x.free(0), left);
            Desk.due("of the other one too", x.free(1), left);
            x.pianos(2);
            Desk.due("two pianos", x.free(0), ALL_WEEKS - 1);
            Desk.due("two pianos", x.free(1), ALL_WEEKS - (1 << 29));
            x.weeks(1);
            Desk.due("a week on, one more comes in", x.free(1), ALL_WEEKS - (1 << 28));
        });
        book.edge(20, "FREE, as bits.", () -> {
            BaizeDoor x = Desk.told("piece 99;pupil 0 0 0;pianos 1;");
            for (int k = 30; k >= 1; k--) {
                Desk.due("up to " + k, x.free(0), (1 << k) - 1);
                x.door(0, k);
            }
            Desk.due("none", x.free(0), 0);
        });
    }

    private static void nobody(Book book) {
        book.edge(TERMS, "NOBODY in so many WEEKS (1 to 30): in how many of these all are AWAY (without PUPILS: none).", () -> {
            BaizeDoor x = Desk.told("piece 99;pupil 0 0 0;pupil 0 0 0;");
            for (int p = 0; p < 2; p++) {
                x.door(p, 1);
                x.door(p, 30);
            }
            x.door(0, 2);
            Desk.due("in 1", x.nobody(1), 1);
            Desk.due("one alone doesn't count", x.nobody(29), 1);
            Desk.due("in 30", x.nobody(30), 2);
            Desk.due("without pupils", Desk.told("piece 9;").nobody(30), 0);
            BaizeDoor seven = Desk.told("piece 99;" + "pupil 0 0 0;".repeat(7) + "pianos 4;");
            for (int p = 0; p < 4; p++) seven.door(p, 1);
            Desk.due("four of seven", seven.nobody(30), 0);
        });
        book.edge(21, "NOBODY: in how many. IllegalArgumentException: not 1 to 30.", () -> {
            BaizeDoor x = Desk.told(SLOW);
            for (int weeks : NOT_1_TO_30) {
                Desk.illegal("nobody(" + weeks + ")", () -> x.nobody(weeks));
                Desk.illegal("without pupils", () -> new BaizeDoor().nobody(weeks));
            }
            Desk.due("none", x.nobody(30), 0);
        });
    }

    private static void through(Book book) {
        book.edge(TERMS, "THROUGH: the fewest times that one must go through THE DOOR now, one behind the other (to any "
            + "WEEKS that are FREE), so that SKILL is as much as the next BAR is HARD, or more (0: it is, or the PIECE "
            + "is done)", () -> {
            BaizeDoor x = Desk.told("piece 10;pupil 10 0 0;pupil 9 0 0;pupil 5 0 0;pupil 4 0 0;pupil 1 0 0;pupil 0 9 0;");
            int[] due = {0, 1, 1, 2, 2, 10};
            for (int p = 0; p < due.length; p++) Desk.due("pupil " + p, x.through(p), due[p]);
            x.weeks(20);
            for (int p = 0; p < due.length; p++) Desk.due("done, pupil " + p, x.through(p), 0);
            BaizeDoor y = Desk.told("piece 1 99;pupil 90 0 0;");
            y.weeks(1);
            Desk.due("by the next bar, 95 to 99", y.through(0), 1);
        });
        book.edge(TERMS, "none, if as many times as WEEKS are FREE aren't enough.", () -> {
            // 5, 4, 3, 2, 1 and 1 each time then: 40 at the thirtieth.
            BaizeDoor x = Desk.told("piece 40;piece 41;pupil 0 0 0;pupil 0 0 1;pupil 0 0 0;");
            Desk.due("thirty times", x.through(0), 30);
            Desk.due("thirty aren't enough", x.through(1), -1);
            x.pianos(1);
            x.door(2, 1);
            Desk.due("29 aren't either", x.through(0), -1);
            for (int k = 2; k <= 30; k++) x.door(2, k);
            Desk.due("none is free", x.free(0), 0);
            Desk.due("none", x.through(0), -1);
        });
        book.edge(22, "THROUGH; NONE: none.", () -> {
            BaizeDoor x = Desk.told("piece 50;pupil 49 0 0;pupil 50 0 0;learns 0;");
            Desk.due("never", x.through(0), -1);
            Desk.due("it is", x.through(1), 0);
        });
    }

    private static void toBeDone(Book book) {
        book.edge(TERMS, "TO BE DONE behind so many WEEKS (0 to 30): the fewest times that one must go through THE DOOR "
            + "now", () -> {
            BaizeDoor x = Desk.told("piece 30;piece 31;pupil 0 0 0;pupil 0 0 1;learns 1;");
            Desk.due("behind 30", x.toBeDone(0, 30), 0);
            Desk.due("behind 29, once", x.toBeDone(0, 29), 1);
            Desk.due("behind 28, twice", x.toBeDone(0, 28), 2);
            Desk.due("behind 1", x.toBeDone(0, 1), 29);
            Desk.due("behind 0, no lesson", x.toBeDone(0, 0), -1);
            Desk.due("31 behind 30", x.toBeDone(1, 30), -1);
            BaizeDoor y = Desk.told("piece 1;pupil 5 0 0;");
            y.weeks(1);
            Desk.due("done behind 0", y.toBeDone(0, 0), 0);
        });
        book.edge(23, "TO BE DONE; NONE: none.", () -> {
            BaizeDoor x = Desk.told("piece 5 5 5;pupil 50 0 0;learns 0;");
            Desk.due("three lessons", x.toBeDone(0, 3), 0);
            Desk.due("two lessons, never", x.toBeDone(0, 2), -1);
        });
        book.edge(23, "IllegalArgumentException (behind NoSuchElementException): not 0 to 30.", () -> {
            BaizeDoor x = Desk.told(SLOW);
            for (int weeks : NOT_0_TO_30) {
                Desk.illegal("weeks " + weeks, () -> x.toBeDone(0, weeks));
                Desk.absent("ahead: pupil 3", () -> x.toBeDone(3, weeks));
                Desk.absent("ahead: pupil -1", () -> x.toBeDone(-1, weeks));
            }
        });
    }

    private static void toBeDoneByTheLast(Book book) {
        book.edge(TERMS, "always to the last one of the WEEKS that are FREE then, so that the PIECE is done behind so "
            + "many WEEKS; none.", () -> {
            BaizeDoor x = Desk.told("piece 10;pupil 4 0 0;pupil 9 0 0;pianos 1;learns 3;");
            Desk.due("once, to the thirtieth", x.toBeDone(0, 1), 1);
            for (int k = 30; k >= 3; k--) x.door(1, k);
            Desk.due("once, to the second", x.toBeDone(0, 1), 1);
            x.door(1, 2);
            Desk.due("the first alone is left, and then there is no lesson", x.toBeDone(0, 1), -1);
            Desk.due("behind 2 weeks one needn't", x.toBeDone(0, 2), 0);
            x.door(1, 1);
            Desk.due("none is left", x.toBeDone(0, 1), -1);
            Desk.due("none is needed", x.toBeDone(0, 2), 0);
            // Only by being sore one learns: by going to the first week, away in it, and there in the second.
            BaizeDoor y = Desk.told("piece 20;pupil 0 0 0;pupil 9 0 0;pianos 1;learns sore*10;");
            for (int k = 2; k <= 30; k++) y.door(1, k);
            Desk.due("the first alone is left, and is enough", y.toBeDone(0, 2), 1);
            y.door(1, 1);
            Desk.due("none is left to be sore by", y.toBeDone(0, 2), -1);
        });
    }

    private static void fits(Book book) {
        book.edge(TERMS, "how many of its BARS, from the first one on, one behind the other, are no more HARD than SKILL "
            + "is now.", () -> {
            BaizeDoor x = Desk.told("piece 11 1;piece 10 11 1;piece 10 9 10 1 10 1 10 10;pupil 10 0 0;pupil 0 0 0;");
            Desk.due("one more hard", x.fits(0, 0), 0);
            Desk.due("as hard, up to one more hard", x.fits(0, 1), 1);
            Desk.due("all eight", x.fits(0, 2), 8);
            for (int piece = 0; piece < 3; piece++) Desk.due("skill 0", x.fits(1, piece), 0);
        });
        book.edge(24, "FITS: how many.", () -> {
            BaizeDoor x = Desk.told("piece 5 5;pupil 5 0 0;");
            x.weeks(1);
            Desk.due("bars that are done fit too", x.fits(0, 0), 2);
            Desk.absent("no such piece", () -> x.fits(0, 1));
            Desk.absent("no such pupil", () -> x.fits(1, 0));
        });
    }

    private static void repertoire(Book book) {
        book.edge(TERMS, "REPERTOIRE: PIECES of which all BARS FIT (bits).", () -> {
            BaizeDoor x = Desk.told("piece 10;piece 10 11;piece 1 1 1 1 1 1 1 11;piece 11;study 10 1 10;piece 10;"
                + "pupil 10 0 0;pupil 0 0 0;pupil 99 0 0;");
            Desk.due("as hard, not more", x.repertoire(0), 1 | 16 | 32);
            Desk.due("none", x.repertoire(1), 0);
            Desk.due("all six", x.repertoire(2), 63);
        });
        book.edge(25, "REPERTOIRE, as bits.", () -> {
            BaizeDoor x = Desk.told("piece 50;piece 10;pupil 10 0 0;");
            Desk.due("the second one", x.repertoire(0), 2);
            x.weeks(20);
            Desk.due("both", x.repertoire(0), 3);
        });
    }

    private static void chooses(String text, int most, int... row) {
        BaizeDoor x = Desk.told(text);
        Desk.due("all together, of " + text, x.choice(-1), most);
        for (int p = 0; p < row.length; p++) Desk.due("pupil " + p + " of " + text, x.choice(p), row[p]);
    }

    private static void choice(Book book) {
        book.edge(TERMS, "CHOICE: each PUPIL has a PIECE or none, no two have one PIECE, so that BARS that FIT are most, "
            + "all together: how many", () -> {
            chooses("piece 5 5;piece 5;pupil 9 0 0;pupil 9 0 0;", 3, 0, 1);
            chooses("piece 5;pupil 9 0 0;pupil 9 0 0;pupil 9 0 0;", 1, 0, -1, -1);
            chooses("piece 5 9;piece 5;pupil 5 0 0;pupil 9 0 0;", 3, 1, 0);
            chooses("piece 1 1 1 1 1 1 1 1;pupil 1 0 0;", 8, 0);
            chooses("", 0);
            chooses("piece 5;", 0);
            BaizeDoor x = Desk.told("piece 5 5;piece 5;piece 5;pupil 9 0 0;pupil 9 0 0;pupil 9 0 0;");
            Desk.due("of three", x.choice(-1), 4);
            Desk.tell(x, "piece 5;pupil 9 0 0;");
            Desk.due("of one, behind those", x.choice(-1), 1);
            chooses("piece 1;piece 1;piece 1;piece 1;piece 1;piece 1 1 1 1 9;" + "pupil 1 0 0;".repeat(6)
                + "pupil 9 0 0;", 10, 0, 1, 2, 3, 4, -1, 5);
        });
        book.edge(TERMS, "the PIECE of one: of like ones the first row (by PUPILS; none behind all).", () -> {
            chooses("piece 50;piece 50;pupil 1 0 0;", 0, 0);
            chooses("piece 50;pupil 1 0 0;pupil 1 0 0;", 0, 0, -1);
            chooses("piece 5;piece 5;pupil 9 0 0;pupil 9 0 0;pupil 9 0 0;", 2, 0, 1, -1);
            chooses("piece 50;piece 5;pupil 9 0 0;pupil 9 0 0;", 1, 0, 1);
            chooses("piece 9;piece 50;pupil 1 0 0;pupil 9 0 0;", 1, 1, 0);
            chooses("piece 9;pupil 1 0 0;pupil 9 0 0;", 1, -1, 0);
        });
        book.edge(26, "CHOICE: how many (pupil NONE), the PIECE of one (NONE: none).", () -> {
            chooses("piece 9 9;pupil 9 0 0;pupil 9 0 0;", 2, 0, -1);
            Desk.due("of nobody", new BaizeDoor().choice(BaizeDoor.NONE), 0);
        });
        book.edge(26, "NoSuchElementException: no such PUPIL.", () -> {
            BaizeDoor x = Desk.told("piece 9 9;pupil 9 0 0;pupil 9 0 0;");
            for (int p : new int[] {-2, 2, 7, Integer.MIN_VALUE, Integer.MAX_VALUE}) {
                Desk.absent("choice(" + p + ")", () -> x.choice(p));
            }
            Desk.absent("choice(0) of nobody", () -> new BaizeDoor().choice(0));
        });
    }

    private static void hardest(Book book) {
        book.edge(TERMS, "HARDEST: the PIECE with the hardest BAR (of like ones the least); none.", () -> {
            Desk.due("like ones", Desk.told("piece 5;piece 1 9 1;piece 9;").hardest(), 1);
            Desk.due("the last bar of the last", Desk.told("piece 5;piece 98;study 1 1 1 1 1 1 1 99;").hardest(), 2);
            Desk.due("the easiest one", Desk.told("piece 1;").hardest(), 0);
            Desk.due("the last of six", Desk.told("piece 1;piece 2;piece 3;piece 4;piece 5;piece 6;").hardest(), 5);
            Desk.due("none", Desk.told("pianos 1;").hardest(), -1);
        });
        book.edge(27, "HARDEST; NONE: no PIECES.", () -> Desk.due("none", new BaizeDoor().hardest(), -1));
    }

    private static void concert(Book book) {
        String four = "piece 5;piece 99;pupil 9 0 0;pupil 4 0 1;pupil 4 0 0;pupil 1 0 0;";
        book.edge(TERMS, "A CONCERT: all PUPILS whose PIECE is done, or all (0, 1), play one behind the other, so that "
            + "SKILL never falls, of like ones the least first: the i-th; none.", () -> {
            BaizeDoor x = Desk.told(four);
            int[] all = {3, 1, 2, 0, -1};
            for (int i = 0; i < all.length; i++) Desk.due("concert(1, " + i + ")", x.concert(1, i), all[i]);
            Desk.due("nobody is done", x.concert(0, 0), -1);
            x.weeks(1);
            int[] done = {3, 2, 0, -1};
            for (int i = 0; i < done.length; i++) Desk.due("concert(0, " + i + ")", x.concert(0, i), done[i]);
            BaizeDoor seven = Desk.told("piece 9;" + "pupil 5 0 0;".repeat(7));
            for (int i = 0; i < 8; i++) Desk.due("seven like ones", seven.concert(1, i), i < 7 ? i : -1);
        });
        book.edge(28, "A CONCERT: the i-th PUPIL; NONE: there are not so many.", () -> {
            BaizeDoor x = Desk.told(four);
            for (int i : new int[] {4, 7, 100, Integer.MAX_VALUE}) Desk.due("concert(1, " + i + ")", x.concert(1, i), -1);
            Desk.due("of nobody", new BaizeDoor().concert(1, 0), -1);
            Desk.due("of nobody", new BaizeDoor().concert(0, 0), -1);
        });
        book.edge(28, "IllegalArgumentException: i below 0, whom isn't 0, 1.", () -> {
            BaizeDoor x = Desk.told(four);
            for (int no : new int[] {-1, Integer.MIN_VALUE}) {
                Desk.illegal("concert(0, " + no + ")", () -> x.concert(0, no));
                Desk.illegal("concert(1, " + no + ")", () -> x.concert(1, no));
                Desk.illegal("concert(" + no + ", 0)", () -> x.concert(no, 0));
            }
            for (int no : new int[] {2, 3, Integer.MAX_VALUE}) Desk.illegal("whom " + no, () -> x.concert(no, 0));
            Desk.illegal("of nobody", () -> new BaizeDoor().concert(2, 0));
        });
    }

    private static void duet(Book book) {
        book.edge(TERMS, "A DUET: the couple (the lesser first; of like ones the first) whose SKILL differs least; none "
            + "with fewer than two.", () -> {
            Desk.due("1 apart", Desk.told("piece 9;pupil 9 0 0;pupil 1 0 0;pupil 8 0 0;").duet(), 2);
            Desk.due("like ones", Desk.told("piece 9;pupil 1 0 0;pupil 9 0 0;pupil 5 0 0;").duet(), 2);
            Desk.due("all alike", Desk.told("piece 9;" + "pupil 5 0 0;".repeat(7)).duet(), 1);
            Desk.due("as far as can be", Desk.told("piece 9;pupil 0 0 0;pupil 99 0 0;").duet(), 1);
            Desk.due("and so", Desk.told("piece 9;pupil 99 0 0;pupil 0 0 0;").duet(), 1);
            Desk.due("one", Desk.told("piece 9;pupil 0 0 0;").duet(), -1);
            Desk.due("nobody", Desk.told("piece 9;").duet(), -1);
        });
        book.edge(29, "A DUET: 10 by the lesser and the other one; NONE: none.", () -> {
            Desk.due("the last couple of seven", Desk.told("piece 9;pupil 1 0 0;pupil 11 0 0;pupil 21 0 0;pupil 31 0 0;"
                + "pupil 41 0 0;pupil 61 0 0;pupil 60 0 0;").duet(), 56);
            Desk.due("nobody", new BaizeDoor().duet(), -1);
        });
    }

    private static void next(Book book) {
        book.edge(TERMS, "NEXT for one: behind how many WEEKS (1 to 60), if only these go by, one more BAR is done than "
            + "now first; none.", () -> {
            BaizeDoor x = Desk.told(SLOW);
            Desk.due("60", x.next(0), 60);
            Desk.due("61", x.next(1), -1);
            Desk.due("1", x.next(2), 1);
            x.weeks(1);
            Desk.due("done", x.next(2), -1);
            Desk.due("60 now", x.next(1), 60);
        });
        book.edge(30, "NEXT; NONE: none.", () -> {
            BaizeDoor x = Desk.told("study 5 5;pupil 5 0 0;learns 0;");
            Desk.due("more than one more", x.next(0), 1);
            x.door(0, 1);
            Desk.due("away in one", x.next(0), 2);
            BaizeDoor y = Desk.told("piece 6;pupil 5 0 0;learns 0;");
            Desk.due("never", y.next(0), -1);
        });
    }

    private static void rush(Book book) {
        String late = "piece 60;piece 5;pupil 0 0 0;pupil 0 0 0;pupil 0 0 1;learns 1;";
        book.edge(TERMS, "A RUSH: of so many WEEKS (1 to 60) from now, if only these go by, that in which most BARS of "
            + "all are done (of like ones the first): which; how many.", () -> {
            BaizeDoor x = Desk.told(late);
            Desk.due("of 60", x.rush(60, 0) * 10 + x.rush(60, 1), 602);
            Desk.due("of 59", x.rush(59, 0) * 10 + x.rush(59, 1), 51);
            Desk.due("of 4: none in each", x.rush(4, 0) * 10 + x.rush(4, 1), 10);
            Desk.due("of 1", x.rush(1, 0) * 10 + x.rush(1, 1), 10);
            BaizeDoor y = Desk.told("piece 3;piece 4;pupil 0 0 0;pupil 0 0 1;learns 1;");
            Desk.due("like ones", y.rush(60, 0) * 10 + y.rush(60, 1), 31);
            y.weeks(1);
            Desk.due("the second", y.rush(60, 0) * 10 + y.rush(60, 1), 21);
            y.weeks(1);
            Desk.due("the first", y.rush(60, 0) * 10 + y.rush(60, 1), 11);
            y.weeks(2);
            Desk.due("no more", y.rush(60, 0) * 10 + y.rush(60, 1), 10);
            Desk.due("nobody", new BaizeDoor().rush(60, 0) * 10 + new BaizeDoor().rush(60, 1), 10);
        });
        book.edge(31, "A RUSH: which (what 0), how many (1). NoSuchElementException: another what.", () -> {
            BaizeDoor x = Desk.told(late);
            Desk.due("which", x.rush(9, 0), 5);
            Desk.due("how many", x.rush(9, 1), 1);
            for (int what : new int[] {-1, 2, Integer.MAX_VALUE}) Desk.absent("what " + what, () -> x.rush(9, what));
        });
        book.edge(31, "IllegalArgumentException (behind that): not 1 to 60.", () -> {
            BaizeDoor x = Desk.told(late);
            for (int weeks : NOT_1_TO_60) {
                Desk.illegal("weeks " + weeks, () -> x.rush(weeks, 1));
                Desk.illegal("of nobody", () -> new BaizeDoor().rush(weeks, 0));
                Desk.absent("ahead: what 2", () -> x.rush(weeks, 2));
                Desk.absent("ahead: what -1", () -> x.rush(weeks, -1));
            }
        });
    }

    private static void sorest(Book book) {
        book.edge(TERMS, "SOREST: who is most SORE behind so many WEEKS (0 to 60), if only these go by (of like ones the "
            + "least); none.", () -> {
            BaizeDoor x = Desk.told("piece 99;pupil 0 9 0;pupil 0 9 0;");
            Desk.due("like ones", x.sorest(0), 0);
            for (int k = 1; k <= 30; k++) x.door(1, k);
            Desk.due("sore behind 0", x.sorest(0), 0);
            Desk.due("behind 1", x.sorest(1), 1);
            Desk.due("one is away for thirty, and 1 sore behind 38", x.sorest(38), 1);
            Desk.due("behind 39 neither is", x.sorest(39), 0);
            Desk.due("behind 60", x.sorest(60), 0);
            Desk.due("nobody", Desk.told("piece 9;").sorest(60), -1);
        });
        book.edge(32, "SOREST; NONE: none. IllegalArgumentException: not 0 to 60.", () -> {
            BaizeDoor x = Desk.told(SLOW);
            for (int weeks : NOT_0_TO_60) {
                Desk.illegal("sorest(" + weeks + ")", () -> x.sorest(weeks));
                Desk.illegal("of nobody", () -> new BaizeDoor().sorest(weeks));
            }
            Desk.due("none", new BaizeDoor().sorest(0), -1);
        });
    }

    private static void toGlove(Book book) {
        book.edge(TERMS, "TO GLOVE: the least that SORE of one must be less now (0 to 9, not below 0), so that one more "
            + "BAR is done in the next WEEK; none.", () -> {
            BaizeDoor x = Desk.told("piece 20;pupil 0 9 0;pupil 0 1 0;pupil 0 0 0;pupil 20 5 0;learns 20*(sore=0);");
            Desk.due("all nine", x.toGlove(0), 9);
            Desk.due("one", x.toGlove(1), 1);
            Desk.due("nothing to lose", x.toGlove(2), 0);
            Desk.due("nothing needed", x.toGlove(3), 0);
            BaizeDoor y = Desk.told("piece 4;piece 6;pupil 0 9 0;pupil 0 0 1;");
            Desk.due("3 gives 4", y.toGlove(0), 6);
            Desk.due("never below 0: 5 isn't 6", y.toGlove(1), -1);
        });
        book.edge(33, "TO GLOVE; NONE: none.", () -> {
            BaizeDoor x = Desk.told("piece 5 5;pupil 50 0 0;");
            Desk.due("0", x.toGlove(0), 0);
            x.door(0, 1);
            Desk.due("away", x.toGlove(0), -1);
            x.weeks(3);
            Desk.due("done", x.toGlove(0), -1);
        });
    }

    private static void full(Book book) {
        book.edge(TERMS, "FULL in the k-th WEEK from now (1 to 30): who is AWAY in it (bits).", () -> {
            BaizeDoor x = Desk.told("piece 99;" + "pupil 0 0 0;".repeat(7) + "pianos 4;");
            for (int p = 3; p < 7; p++) x.door(p, 1);
            x.door(0, 30);
            Desk.due("next week", x.full(1), 0x78);
            Desk.due("between", x.full(2) + x.full(29), 0);
            Desk.due("the thirtieth", x.full(30), 1);
            x.weeks(1);
            Desk.due("gone by", x.full(1), 0);
            Desk.due("a week nearer", x.full(29), 1);
        });
        book.edge(34, "FULL, as bits. IllegalArgumentException: not 1 to 30.", () -> {
            BaizeDoor x = Desk.told(SLOW);
            for (int k : NOT_1_TO_30) {
                Desk.illegal("full(" + k + ")", () -> x.full(k));
                Desk.illegal("of nobody", () -> new BaizeDoor().full(k));
            }
            Desk.due("none", x.full(1) + x.full(30), 0);
        });
    }

    private static void empty(Book book) {
        book.edge(TERMS, "EMPTY: in how many of so many WEEKS (1 to 30) nobody is AWAY.", () -> {
            BaizeDoor x = Desk.told("piece 99;pupil 0 0 0;pupil 0 0 0;");
            Desk.due("all", x.empty(30), 30);
            x.door(0, 1);
            x.door(1, 30);
            Desk.due("of 1", x.empty(1), 0);
            Desk.due("of 2", x.empty(2), 1);
            Desk.due("of 29", x.empty(29), 28);
            Desk.due("of 30", x.empty(30), 28);
            Desk.due("without pupils", new BaizeDoor().empty(30), 30);
            Desk.due("without pupils", new BaizeDoor().empty(1), 1);
        });
        book.edge(35, "EMPTY: in how many. IllegalArgumentException: not 1 to 30.", () -> {
            BaizeDoor x = Desk.told(SLOW);
            for (int weeks : NOT_1_TO_30) {
                Desk.illegal("empty(" + weeks + ")", () -> x.empty(weeks));
                Desk.illegal("of nobody", () -> new BaizeDoor().empty(weeks));
            }
        });
    }

    private static void common(Book book) {
        book.edge(TERMS, "COMMON of two PIECES: the longest row of BARS, as HARD one behind the other, that both have in "
            + "this order (others may be between): how long.", () -> {
            BaizeDoor x = Desk.told("piece 1 2 3 2 4;study 2 4 3 1 2;piece 9;piece 1 2 3 4 5 6 7 8;"
                + "study 8 7 6 5 4 3 2 1;piece 1 99 2 98 3 97 4 96;");
            Desk.due("two and between", x.common(0, 1) * 10 + x.common(1, 0), 33);
            Desk.due("none", x.common(0, 2) + x.common(2, 0), 0);
            Desk.due("one and itself", x.common(3, 3), 8);
            Desk.due("not the other way round", x.common(3, 4), 1);
            Desk.due("others between", x.common(3, 5), 4);
        });
        book.edge(36, "COMMON (of one and itself: all).", () -> {
            BaizeDoor x = Desk.told("piece 9;study 8 7 8 7 8 7 8 7;piece 1 1 1 1 1 1 1 1;");
            Desk.due("one", x.common(0, 0), 1);
            Desk.due("eight", x.common(1, 1), 8);
            Desk.due("of one and another none", x.common(1, 2), 0);
        });
    }

    private static void workAndMates(Book book) {
        book.edge(37, "WORK.", () -> {
            BaizeDoor x = Desk.told("piece 1;piece 99 99 99 99 99 99 99 99;");
            Desk.due("the least", x.work(0), 1);
            Desk.due("the most", x.work(1), 792);
        });
        book.edge(TERMS, "MATES of one: others with the same PIECE (bits).", () -> {
            BaizeDoor x = Desk.told("piece 9;piece 9;" + "pupil 5 0 0;".repeat(6) + "pupil 5 0 1;");
            Desk.due("not oneself", x.mates(0), 0x3e);
            Desk.due("not oneself", x.mates(5), 0x1f);
            Desk.due("none", x.mates(6), 0);
            x.begin(6, 0);
            Desk.due("all others", x.mates(6), 0x3f);
        });
        book.edge(38, "MATES, as bits.", () -> Desk.due("alone", Desk.told("piece 9;pupil 5 0 0;").mates(0), 0));
    }
}
