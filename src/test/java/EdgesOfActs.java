import java.util.function.IntUnaryOperator;

/** Edges of weeks, the door and acts, and of what there is (Terms ==== 2; promises 5 to 14, 45, 46). */
final class EdgesOfActs {
    private static final String TERMS = "Terms";
    private static final String THREE =
        "piece 10 20 15;study 5 12 30 8;pupil 8 4 0;prodigy 10 0 1;pupil 30 9 0;pianos 1;";

    private EdgesOfActs() {
    }

    static void all(Book book) {
        practise(book);
        lesson(book);
        week(book);
        theDoor(book);
        acts(book);
        count(book);
        pieceAndBar(book);
        pupil(book);
        weeksCall(book);
        doorCall(book);
        glovesCall(book);
        beginCall(book);
        pianosCall(book);
        undoCall(book);
        image(book);
        restore(book);
    }

    private static BaizeDoor alone(String kind, int skill, int sore, String rule) {
        return Desk.told("piece 99;" + kind + " " + skill + " " + sore + " 0;" + rule);
    }

    private static void practise(Book book) {
        book.edge(TERMS, "WEEKS are counted from 0.", () -> {
            Desk.due("a new object", new BaizeDoor().count(3), 0);
            BaizeDoor x = Desk.told(THREE);
            Desk.due("a school", x.count(3), 0);
            x.weeks(3);
            Desk.tell(x, THREE);
            Desk.due("another school", x.count(3), 0);
        });
        book.edge(TERMS, "SKILL is more by what LEARNS gives, kept to 0 to 20", () -> {
            String[] rules = {"0-9999", "0-1", "0", "1", "19", "20", "21", "9999", "9999*9999*9"};
            int[] due = {0, 0, 0, 1, 19, 20, 20, 20, 20};
            for (int i = 0; i < rules.length; i++) {
                Desk.due("learns " + rules[i], alone("pupil", 50, 5, "learns " + rules[i] + ";").pupil(0, 6), due[i]);
                BaizeDoor x = alone("pupil", 50, 5, "learns " + rules[i] + ";");
                Desk.due("through the door", x.door(0, 3), 50 + due[i]);
                x.weeks(1);
                Desk.due("in a week", x.pupil(0, 0), 50 + 2 * due[i]);
            }
        });
        book.edge(TERMS, "(without it 5 less half of SORE, cut down)", () -> {
            int[] due = {5, 5, 4, 4, 3, 3, 2, 2, 1, 1};
            for (int sore = 0; sore < due.length; sore++) {
                Desk.due("sore " + sore, alone("pupil", 0, sore, "").pupil(0, 6), due[sore]);
            }
        });
        book.edge(TERMS, "of a prodigy by as much again", () -> {
            Desk.due("twice 5", alone("prodigy", 0, 0, "").pupil(0, 6), 10);
            Desk.due("twice 1", alone("prodigy", 0, 9, "").pupil(0, 6), 2);
            Desk.due("twice 20", alone("prodigy", 0, 0, "learns 35;").pupil(0, 6), 40);
            Desk.due("twice 0", alone("prodigy", 50, 0, "learns 0-5;").pupil(0, 6), 0);
        });
        book.edge(TERMS, "99 at most.", () -> {
            int[] skill = {94, 95, 98, 99};
            for (int s : skill) {
                BaizeDoor x = alone("pupil", s, 0, "");
                x.weeks(1);
                Desk.due("from " + s + " in a week", x.pupil(0, 0), 99);
                Desk.due("from " + s + " by the door", alone("pupil", s, 0, "").door(0, 1), 99);
            }
            Desk.due("not 98 yet", alone("pupil", 93, 0, "").door(0, 1), 98);
            Desk.due("a prodigy", alone("prodigy", 60, 0, "learns 20;").door(0, 1), 99);
        });
    }

    /** The bars that are done behind a week, of a pupil who has skill 10 then. */
    private static int barsInAWeek(String piece) {
        BaizeDoor x = Desk.told(piece + ";pupil 5 0 0;");
        x.weeks(1);
        return x.pupil(0, 3);
    }

    private static void lesson(Book book) {
        book.edge(TERMS, "A LESSON: if the PIECE isn't done", () -> {
            for (String kind : new String[] {"piece", "study"}) {
                BaizeDoor x = Desk.told(kind + " 1;pupil 5 0 0;");
                x.weeks(1);
                Desk.due("done", x.pupil(0, 3) * 10 + x.count(5), 11);
                x.weeks(20);
                Desk.due("no more bars than there are", x.pupil(0, 3), 1);
            }
            BaizeDoor y = Desk.told("study 1 1 1 1 1 1 1 1;pupil 5 0 0;");
            y.weeks(20);
            Desk.due("eight", y.pupil(0, 3), 8);
        });
        book.edge(TERMS, "SKILL is as much as the next BAR is HARD, or more, that BAR is done", () -> {
            Desk.due("less", barsInAWeek("piece 11 1"), 0);
            Desk.due("as much", barsInAWeek("piece 10 1"), 1);
            Desk.due("more", barsInAWeek("piece 9 1"), 1);
        });
        book.edge(TERMS, "(of a 'study' all BARS one behind the other for which SKILL is enough)", () -> {
            Desk.due("none", barsInAWeek("study 11 1"), 0);
            Desk.due("up to one that is too hard", barsInAWeek("study 10 9 10 11 1"), 3);
            Desk.due("all", barsInAWeek("study 1 2 3 4 5 6 7 10"), 8);
            Desk.due("of a piece one", barsInAWeek("piece 1 2 3 4 5 6 7 10"), 1);
        });
    }

    private static void week(Book book) {
        book.edge(TERMS, "PRACTISES, has a LESSON, and is 1 less SORE (not below 0)", () -> {
            BaizeDoor x = Desk.told("piece 4;piece 5;pupil 0 2 0;pupil 0 2 1;pupil 0 1 0;pupil 0 0 0;");
            x.weeks(1);
            Desk.due("practised as sore as one was", x.pupil(0, 0), 4);
            Desk.due("the lesson is behind that", x.pupil(0, 3), 1);
            Desk.due("not enough for 5", x.pupil(1, 3), 0);
            Desk.due("2 becomes 1", x.pupil(0, 1), 1);
            Desk.due("1 becomes 0", x.pupil(2, 1), 0);
            Desk.due("0 stays", x.pupil(3, 1), 0);
        });
        book.edge(TERMS, "one who is AWAY does nothing.", () -> {
            BaizeDoor x = Desk.told("piece 1 1;pupil 5 3 0;");
            x.door(0, 1);
            int skill = x.pupil(0, 0);
            x.weeks(1);
            Desk.due("skill stays", x.pupil(0, 0), skill);
            Desk.due("no bar", x.pupil(0, 3), 0);
            Desk.due("sore stays", x.pupil(0, 1), 5);
            x.weeks(1);
            Desk.due("there again", x.pupil(0, 3), 1);
        });
        book.edge(TERMS, "The WEEK is one more then.", () -> {
            BaizeDoor x = new BaizeDoor();
            Desk.due("one", x.weeks(1), 1);
            Desk.due("twenty", x.weeks(20), 21);
        });
    }

    private static void theDoor(Book book) {
        book.edge(TERMS, "the k-th WEEK from now (1 to 30; the one that comes next is the first)", () -> {
            BaizeDoor x = Desk.told("piece 99;pupil 0 0 0;");
            for (int k : new int[] {0, 31, 32, 33, 62, -1, -31, Integer.MAX_VALUE, Integer.MIN_VALUE}) {
                Desk.due("door(0, " + k + ")", x.door(0, k), -1);
            }
            Desk.due("nowhere yet", x.pupil(0, 4), 0);
            x.door(0, 1);
            Desk.due("next week", x.count(4) * 10 + x.pupil(0, 4), 11);
            x.door(0, 30);
            Desk.due("the thirtieth", x.pupil(0, 4), 1 << 29 | 1);
            x.weeks(20);
            x.weeks(9);
            Desk.due("the thirtieth is next", x.pupil(0, 4), 1);
        });
        book.edge(TERMS, "if one isn't AWAY in that", () -> {
            BaizeDoor x = Desk.told("piece 99;pupil 0 0 0;pupil 0 0 0;pianos 4;");
            x.door(0, 30);
            x.door(0, 1);
            Desk.due("away in 30", x.door(0, 30), -1);
            Desk.due("away in 1", x.door(0, 1), -1);
            Desk.due("not in 29", x.door(0, 29) >= 0 ? 1 : 0, 1);
            Desk.due("another one isn't", x.door(1, 30), 5);
            x.weeks(1);
            Desk.due("30 is 29 now", x.door(0, 29), -1);
        });
        book.edge(TERMS, "fewer PUPILS than PIANOS are AWAY in it", () -> {
            for (int pianos = 1; pianos <= 4; pianos++) {
                BaizeDoor x = Desk.told("piece 99;" + "pupil 0 0 0;".repeat(7) + "pianos " + pianos + ";");
                for (int p = 0; p < 7; p++) Desk.due("pupil " + p, x.door(p, 30), p < pianos ? 5 : -1);
                Desk.due("another week", x.door(6, 29), 5);
            }
        });
        book.edge(TERMS, "one PRACTISES, is 2 more SORE (9 at most), and is AWAY in that WEEK.", () -> {
            int[] due = {2, 3, 4, 5, 6, 7, 8, 9, 9, 9};
            for (int sore = 0; sore < due.length; sore++) {
                BaizeDoor x = Desk.told("piece 1;pupil 50 " + sore + " 0;");
                Desk.due("practised as sore as one was", x.door(0, 2), 50 + 5 - sore / 2);
                Desk.due("sore " + sore, x.pupil(0, 1), due[sore]);
                Desk.due("no lesson", x.pupil(0, 3), 0);
                Desk.due("away", x.pupil(0, 4), 2);
            }
        });
    }

    private static int[] lastOne(BaizeDoor x) {
        return new int[] {x.pupil(6, 0), x.pupil(6, 1), x.pupil(6, 4), x.count(3)};
    }

    private static void row(String what, int[] got, int[] due) {
        for (int i = 0; i < due.length; i++) Desk.due(what + ", " + i, got[i], due[i]);
    }

    private static void acts(Book book) {
        book.edge(TERMS, "ACTS (at most 40 are kept, the latest ones)", () -> {
            BaizeDoor x = Desk.told("piece 99;" + "pupil 0 9 0;".repeat(7) + "pianos 4;learns 1;");
            int[][] before = new int[44][];
            for (int i = 1; i <= 43; i++) {
                before[i] = lastOne(x);
                if (i % 2 == 0) x.weeks(1);
                else Desk.holds("the last one goes", x.door(6, 30) >= 0);
                Desk.due("kept behind " + i, x.count(7), Math.min(i, 40));
            }
            for (int i = 43; i >= 4; i--) {
                Desk.due("undone " + i, x.undo(), i - 4);
                row("as before act " + i, lastOne(x), before[i]);
            }
            Desk.due("the first three aren't", x.undo(), -1);
            row("as behind the third", lastOne(x), before[4]);
        });
        book.edge(TERMS, "WEEKS go by (1 to 20)", () -> {
            for (int many = -1; many <= 22; many++) {
                Desk.due("weeks(" + many + ")", new BaizeDoor().weeks(many), many >= 1 && many <= 20 ? many : -1);
            }
        });
        book.edge(TERMS, "gets GLOVES (SORE so much less, 1 to 9, not below 0)", () -> {
            for (int less = -1; less <= 11; less++) {
                for (int sore = 0; sore <= 9; sore += 3) {
                    BaizeDoor x = alone("pupil", 0, sore, "");
                    boolean good = less >= 1 && less <= 9;
                    Desk.due("gloves of " + less + " for " + sore, x.gloves(0, less), good ? Math.max(0, sore - less) : -1);
                    Desk.due("sore then", x.pupil(0, 1), good ? Math.max(0, sore - less) : sore);
                }
            }
        });
        book.edge(TERMS, "begins another PIECE (no BAR of it is done)", () -> {
            BaizeDoor x = Desk.told("study 1 1 1;piece 2 2 2;pupil 50 0 0;");
            x.weeks(1);
            x.begin(0, 1);
            Desk.due("none of three", x.pupil(0, 3), 0);
            Desk.due("not done", x.count(5), 0);
            x.begin(0, 0);
            Desk.due("nor of the old one", x.pupil(0, 3), 0);
        });
        book.edge(TERMS, "PIANOS are another number (1 to 4: who is AWAY stays so)", () -> {
            BaizeDoor x = Desk.told("piece 99;" + "pupil 0 0 0;".repeat(4) + "pianos 4;");
            for (int p = 0; p < 3; p++) x.door(p, 2);
            x.pianos(1);
            Desk.due("three are away", x.full(2), 7);
            Desk.due("a fourth can't", x.door(3, 2), -1);
            x.pianos(3);
            Desk.due("nor now", x.door(3, 2), -1);
            x.pianos(4);
            Desk.due("now one can", x.door(3, 2), 5);
        });
        book.edge(TERMS, "They are UNDONE, the last one first.", () -> {
            BaizeDoor x = Desk.told(THREE);
            String[] before = new String[6];
            for (int i = 0; i < 5; i++) {
                before[i] = Desk.view(x);
                if (i == 0) x.weeks(3);
                if (i == 1) x.door(0, 1);
                if (i == 2) x.gloves(2, 3);
                if (i == 3) x.begin(2, 1);
                if (i == 4) x.pianos(4);
            }
            for (int i = 4; i >= 0; i--) {
                Desk.due("left", x.undo(), i);
                Desk.due("as before act " + i, Desk.view(x), before[i]);
            }
        });
    }

    private static void count(Book book) {
        String counts = "0 PIECES, 1 PUPILS, 2 PIANOS, 3 the WEEK, 4 PUPILS who are AWAY in the next WEEK (bits), "
            + "5 PUPILS whose PIECE is done (bits), 6 SKILL of all, 7 ACTS that are kept, 8 SEEN, 9 bytes of the tape, "
            + "10 to 12 STATUS 0 to 2.";
        book.edge(5, counts, () -> {
            BaizeDoor x = Desk.told("piece 99;study 1;" + "pupil 99 0 1;".repeat(6) + "pupil 99 9 0;pianos 4;");
            x.weeks(1);
            for (int p = 3; p < 7; p++) x.door(p, 1);
            for (int i = 0; i < 8; i++) x.see(0, 1, 1);
            x.see(0, 1, 1);
            x.weeks(0);
            x.weeks(0);
            for (int i = 0; i < 3; i++) Desk.tell(x, "x");
            for (int i = 0; i < 35; i++) x.feed(0, 0, 0, 0, 0);
            int[] due = {2, 7, 4, 1, 0x78, 0x7f, 693, 5, 8, 700, 3, 2, 1};
            for (int i = 0; i < due.length; i++) Desk.due("count(" + i + ")", x.count(i), due[i]);
            x.begin(6, 1);
            Desk.due("all but the last", x.count(5), 0x3f);
        });
        book.edge(5, "NoSuchElementException: another what.", () -> {
            BaizeDoor x = Desk.told(THREE);
            for (int what : new int[] {-1, 13, 14, Integer.MIN_VALUE, Integer.MAX_VALUE}) {
                Desk.absent("count(" + what + ")", () -> x.count(what));
            }
        });
    }

    private static void pieceAndBar(Book book) {
        book.edge(TERMS, "STEPS of a PIECE: the most by which a BAR is harder than the one ahead of it (0, if none is).", () -> {
            String[] pieces = {"5", "9 5 1", "5 5", "1 99", "1 2 4 7", "50 1 20 19 40", "99 1 2"};
            int[] due = {0, 0, 0, 98, 3, 21, 1};
            for (int i = 0; i < pieces.length; i++) {
                Desk.due("steps of " + pieces[i], Desk.told("piece " + pieces[i] + ";").piece(0, 2), due[i]);
            }
        });
        book.edge(6, "0 BARS, 1 whether a study (1), 2 STEPS.", () -> {
            BaizeDoor x = Desk.told("piece 1 2 3 4 5 6 7 99;study 4;");
            int[] due = {8, 0, 92, 1, 1, 0};
            for (int i = 0; i < 6; i++) Desk.due("piece(" + i / 3 + ", " + i % 3 + ")", x.piece(i / 3, i % 3), due[i]);
        });
        book.edge(6, "NoSuchElementException: no such PIECE (as everywhere), what.", () -> {
            BaizeDoor x = Desk.told("piece 5;piece 5;pupil 5 0 0;");
            IntUnaryOperator[] calls = {p -> x.piece(p, 0), p -> x.bar(p, 0), p -> x.begin(0, p), p -> x.fits(0, p),
                p -> x.common(p, 0), p -> x.common(0, p), x::work};
            for (int i = 0; i < calls.length; i++) {
                IntUnaryOperator call = calls[i];
                for (int p : new int[] {-1, 2, 6, Integer.MIN_VALUE, Integer.MAX_VALUE}) {
                    Desk.absent("call " + i + " of piece " + p, () -> call.applyAsInt(p));
                }
                Desk.holds("call " + i + " of piece 1", call.applyAsInt(1) >= 0);
            }
            for (int what : new int[] {-1, 3, Integer.MAX_VALUE}) Desk.absent("what " + what, () -> x.piece(0, what));
            Desk.due("nothing is refused", x.count(11), 0);
        });
        book.edge(7, "How HARD the i-th BAR of a PIECE is. NoSuchElementException: also there is none.", () -> {
            BaizeDoor x = Desk.told("piece 7;piece 11 12 13 14 15 16 17 18;");
            Desk.due("the first is 0", x.bar(1, 0), 11);
            Desk.due("the last is 7", x.bar(1, 7), 18);
            for (int i : new int[] {-1, 8, Integer.MIN_VALUE, Integer.MAX_VALUE}) {
                Desk.absent("bar(1, " + i + ")", () -> x.bar(1, i));
            }
            Desk.absent("bar(0, 1), of the piece behind it", () -> x.bar(0, 1));
            Desk.absent("bar(2, 0)", () -> x.bar(2, 0));
        });
    }

    private static void pupil(Book book) {
        String parts = "0 SKILL, 1 SORE, 2 the PIECE, 3 BARS that are done, 4 in which of the next 30 WEEKS one is AWAY "
            + "(the k-th: bit k less 1), 5 whether a prodigy (1), 6 by how much SKILL would be more, if one PRACTISED "
            + "now (to 99).";
        book.edge(8, parts, () -> {
            BaizeDoor x = Desk.told("piece 99;study 1 1 1 1 1 1 1 1;prodigy 85 9 1;pupil 97 0 0;pupil 99 0 0;");
            x.weeks(1);
            x.door(0, 1);
            x.door(0, 30);
            int[] due = {91, 9, 1, 8, 1 << 29 | 1, 1, 2};
            for (int i = 0; i < due.length; i++) Desk.due("pupil(0, " + i + ")", x.pupil(0, i), due[i]);
            BaizeDoor y = Desk.told("piece 99;pupil 97 0 0;pupil 99 0 0;prodigy 94 0 0;pupil 94 0 0;");
            int[] more = {2, 0, 5, 5};
            for (int p = 0; p < more.length; p++) Desk.due("to 99, pupil " + p, y.pupil(p, 6), more[p]);
            Desk.due("nothing changed", y.pupil(0, 0), 97);
        });
        book.edge(8, "NoSuchElementException: no such PUPIL (as everywhere), what.", () -> {
            BaizeDoor x = Desk.told("piece 5;piece 99;" + "pupil 5 0 0;".repeat(2));
            IntUnaryOperator[] calls = {p -> x.pupil(p, 0), p -> x.door(p, 1), p -> x.gloves(p, 1), p -> x.begin(p, 1),
                p -> x.then(p, 0, 0), p -> x.done(p) + 1, x::free, p -> x.through(p) + 1, p -> x.toBeDone(p, 0) + 1,
                p -> x.fits(p, 0), x::repertoire, p -> p == -1 ? x.mates(p) : x.choice(p) + 1, p -> x.next(p) + 1,
                p -> x.toGlove(p) + 1, x::mates, p -> x.see(p, 1, 0), p -> x.game(p, 0, 0), p -> x.game(0, p, 0)};
            for (int i = 0; i < calls.length; i++) {
                IntUnaryOperator call = calls[i];
                for (int p : new int[] {-1, 2, 7, Integer.MIN_VALUE, Integer.MAX_VALUE}) {
                    Desk.absent("call " + i + " of pupil " + p, () -> call.applyAsInt(p));
                }
                if (i != 16) Desk.holds("call " + i + " of pupil 1", call.applyAsInt(1) >= 0);
            }
            for (int what : new int[] {-1, 7, Integer.MAX_VALUE}) Desk.absent("what " + what, () -> x.pupil(0, what));
            Desk.due("nothing is refused", x.count(11) + x.count(12), 0);
        });
    }

    /** An act that is refused: NONE, one more in STATUS 1, and nothing else changes. */
    private static void refused(String call, BaizeDoor x, Desk.Call act) {
        String before = Desk.view(x);
        int status = x.count(11);
        Desk.due(call, act.answer(), -1);
        Desk.due(call + ": status 1", x.count(11), status + 1);
        Desk.due(call + ": all stays", Desk.view(x), before);
    }

    /** A call that throws: nothing changes, STATUS neither. */
    private static void leaves(String call, BaizeDoor x, Desk.Call act) {
        String before = Desk.view(x) + x.count(11) + x.count(12);
        Desk.absent(call, act);
        Desk.due(call + ": all stays", Desk.view(x) + x.count(11) + x.count(12), before);
    }

    private static void weeksCall(Book book) {
        book.edge(9, "NONE (STATUS 1): not 1 to 20", () -> {
            BaizeDoor x = Desk.told(THREE);
            for (int many : new int[] {0, -1, 21, Integer.MIN_VALUE, Integer.MAX_VALUE}) {
                refused("weeks(" + many + ")", x, () -> x.weeks(many));
            }
            Desk.due("weeks(1)", x.weeks(1), 1);
            Desk.due("weeks(20)", x.weeks(20), 21);
        });
        book.edge(9, "it would be above 999.", () -> {
            BaizeDoor x = Desk.told(THREE);
            for (int i = 0; i < 49; i++) x.weeks(20);
            refused("to 1000", x, () -> x.weeks(20));
            Desk.due("to 999", x.weeks(19), 999);
            refused("from 999 to 1000", x, () -> x.weeks(1));
            refused("from 999 to 1019", x, () -> x.weeks(20));
            Desk.due("undone", x.undo() * 1000 + x.count(3), 39 * 1000 + 980);
            Desk.due("again to 998", x.weeks(18), 998);
            refused("to 1000 by 2", x, () -> x.weeks(2));
            Desk.due("to 999 by 1", x.weeks(1), 999);
            Desk.due("the door is open yet", x.door(0, 30), 99);
            Desk.due("and what would be behind it", x.then(0, 60, 0), 99);
        });
    }

    private static void doorCall(Book book) {
        book.edge(10, "THE DOOR: SKILL then. NONE (STATUS 1): one can't.", () -> {
            BaizeDoor x = Desk.told(THREE);
            Desk.due("skill then", x.door(0, 5), 11);
            refused("is away", x, () -> x.door(0, 5));
            refused("no piano", x, () -> x.door(1, 5));
            for (int k : new int[] {0, 31, -1, 37, Integer.MIN_VALUE, Integer.MAX_VALUE}) {
                refused("week " + k, x, () -> x.door(1, k));
            }
            leaves("no such pupil, no such week", x, () -> x.door(3, 0));
            leaves("no such pupil", x, () -> x.door(-1, 1));
        });
    }

    private static void glovesCall(Book book) {
        book.edge(11, "GLOVES: SORE then. NONE (STATUS 1): not 1 to 9.", () -> {
            BaizeDoor x = Desk.told(THREE);
            Desk.due("9 less 9", x.gloves(2, 9), 0);
            Desk.due("4 less 1", x.gloves(0, 1), 3);
            for (int less : new int[] {0, -1, 10, Integer.MIN_VALUE, Integer.MAX_VALUE}) {
                refused("gloves of " + less, x, () -> x.gloves(0, less));
            }
            leaves("no such pupil, no such gloves", x, () -> x.gloves(3, 0));
            leaves("no such pupil", x, () -> x.gloves(-1, 1));
        });
    }

    private static void beginCall(Book book) {
        book.edge(12, "NONE (STATUS 1): it is that one.", () -> {
            BaizeDoor x = Desk.told(THREE);
            refused("piece 0", x, () -> x.begin(0, 0));
            x.weeks(20);
            refused("a piece that is done", x, () -> x.begin(1, 1));
            Desk.due("another", x.begin(1, 0), 1);
            refused("that one now", x, () -> x.begin(1, 0));
        });
        book.edge(12, "NoSuchElementException (ahead): no such PUPIL, PIECE.", () -> {
            BaizeDoor x = Desk.told(THREE);
            leaves("no such pupil", x, () -> x.begin(3, 0));
            leaves("no such piece", x, () -> x.begin(0, 2));
            leaves("pupil -1", x, () -> x.begin(-1, 0));
            leaves("piece -1", x, () -> x.begin(0, -1));
            leaves("neither", x, () -> x.begin(3, 2));
        });
    }

    private static void pianosCall(Book book) {
        book.edge(13, "PIANOS: how many there were. NONE (STATUS 1): not 1 to 4.", () -> {
            BaizeDoor x = Desk.told(THREE);
            Desk.due("1 becomes 4", x.pianos(4), 1);
            Desk.due("4 becomes 1", x.pianos(1), 4);
            for (int many : new int[] {0, -1, 5, Integer.MIN_VALUE, Integer.MAX_VALUE}) {
                refused("pianos(" + many + ")", x, () -> x.pianos(many));
            }
            Desk.due("as many as there are", x.pianos(1), 1);
            Desk.due("is an act too", x.count(7), 3);
        });
    }

    private static void undoCall(Book book) {
        book.edge(14, "The last ACT is UNDONE: how many are left. NONE: there is none.", () -> {
            BaizeDoor x = Desk.told(THREE);
            Desk.due("none", x.undo(), -1);
            x.weeks(2);
            x.gloves(0, 1);
            x.weeks(0);
            Desk.due("one is left", x.undo(), 1);
            Desk.due("none is left", x.undo(), 0);
            String before = Desk.view(x);
            Desk.due("none", x.undo(), -1);
            Desk.due("all stays", Desk.view(x), before);
            Desk.due("nothing is refused but weeks(0), which isn't undone", x.count(11), 1);
            x.see(0, 1, 0);
            x.pianos(3);
            x.undo();
            Desk.due("what is seen isn't undone", x.count(8), 1);
        });
    }

    private static void image(Book book) {
        book.edge(TERMS, "AN IMAGE keeps all that WEEKS and ACTS change, ACTS that are kept, what is SEEN, STATUS.", () -> {
            BaizeDoor x = Desk.told(THREE);
            for (int i = 0; i < 41; i++) x.weeks(1);
            x.door(0, 30);
            x.begin(1, 0);
            x.gloves(2, 1);
            x.pianos(3);
            for (int i = 0; i < 8; i++) x.see(2, 1 + i, 3);
            x.see(2, 1, 3);
            x.door(0, 30);
            Desk.tell(x, "x");
            String before = Desk.view(x);
            x.image();
            Desk.due("the image changes nothing", Desk.view(x), before);
            changeAll(x);
            Desk.holds("restored", x.restore());
            Desk.due("all", Desk.view(x), before);
            for (int i = 10; i <= 12; i++) Desk.due("status " + i, x.count(i), 1);
            for (int i = 39; i >= 0; i--) Desk.due("acts", x.undo(), i);
            Desk.due("the first of forty is the sixth week", x.count(3), 5);
            imageOfSeven();
        });
        book.edge(45, "AN IMAGE is kept, in place of another one.", () -> {
            BaizeDoor x = Desk.told(THREE);
            x.weeks(1);
            x.image();
            x.weeks(2);
            x.image();
            x.weeks(4);
            Desk.holds("restored", x.restore());
            Desk.due("the latter one", x.count(3), 3);
            BaizeDoor y = new BaizeDoor();
            y.image();
            y.weeks(5);
            Desk.holds("an image of nobody", y.restore());
            Desk.due("week 0", y.count(3), 0);
        });
    }

    private static void imageOfSeven() {
        BaizeDoor x = Desk.told("piece 30 40;piece 9;" + "pupil 5 5 0;".repeat(7) + "pianos 4;");
        x.begin(6, 1);
        x.weeks(1);
        for (int p = 3; p < 7; p++) x.door(p, 30);
        for (int i = 0; i < 8; i++) x.see(6 - i % 7, 4 + 2 * i, 1);
        String before = Desk.view(x);
        x.image();
        x.weeks(20);
        x.begin(6, 0);
        x.forget();
        for (int i = 0; i < 8; i++) x.see(i % 7, 20 - i, 0);
        x.restore();
        Desk.due("seven pupils", Desk.view(x), before);
        BaizeDoor y = Desk.told("piece 10 20;pupil 0 0 0;pupil 5 0 0;");
        y.see(1, 3, 1);
        y.image();
        y.forget();
        y.see(0, 5, 0);
        y.restore();
        Desk.due("whom, when and what was seen", y.been(0) * 1000 + y.been(1) * 10 + y.been(2), 4010);
    }

    private static void changeAll(BaizeDoor x) {
        x.weeks(20);
        for (int p = 0; p < 3; p++) x.door(p, 7);
        x.begin(0, 1);
        x.gloves(0, 9);
        x.pianos(4);
        x.forget();
        x.see(0, 3, 8);
        x.see(0, 0, 0);
        x.weeks(0);
        for (int i = 0; i < 5; i++) x.undo();
        Desk.tell(x, "x");
    }

    private static void restore(Book book) {
        book.edge(46, "It is as the IMAGE again: true. False: there is none.", () -> {
            BaizeDoor x = Desk.told(THREE);
            x.weeks(1);
            String before = Desk.view(x);
            Desk.holds("none", !x.restore());
            Desk.due("all stays", Desk.view(x), before);
            x.image();
            for (int i = 0; i < 3; i++) {
                x.weeks(5);
                Desk.holds("again and again", x.restore());
                Desk.due("as the image", Desk.view(x), before);
            }
            x.feed(0, 0, 0, 0, 0);
            x.restore();
            Desk.due("the tape is no part of it", x.count(9), 20);
            Desk.tell(x, "piece 5");
            int place = x.fault();
            x.restore();
            Desk.due("nor is fault()", x.fault(), place);
            Desk.tell(x, "");
            Desk.holds("none of another school", !x.restore());
        });
    }
}
