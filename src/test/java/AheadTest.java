/** Promises 15 to 38: what comes if only weeks go by, the door, pieces, concerts. */
public final class AheadTest {
    private static final int ALL_WEEKS = (1 << 30) - 1;
    private static final String THREE =
        "piece 10 20 15;study 5 12 30 8;pupil 8 4 0;prodigy 10 0 1;pupil 30 9 0;pianos 1;";

    public static void main(String[] args) {
        Desk.within(120);
        then();
        done();
        heardAndBest();
        stuck();
        free();
        nobodyFullEmpty();
        through();
        toBeDone();
        fits();
        choice();
        hardest();
        concert();
        duet();
        next();
        rush();
        sorest();
        toGlove();
        common();
        workAndMates();
        nothingIsChanged();
        Desk.end();
    }

    private static void then() {
        BaizeDoor x = Desk.told(THREE);
        int[][] due = {{8, 0, 4}, {11, 1, 3}, {15, 1, 2}, {19, 1, 1}, {24, 2, 0}, {29, 3, 0}, {34, 3, 0}};
        for (int w = 0; w < due.length; w++) {
            for (int i = 0; i < 3; i++) Desk.due("then(0, " + w + ", " + i + ")", x.then(0, w, i), due[w][i]);
        }
        Desk.due("then(0, 60, 0)", x.then(0, 60, 0), 99);
        Desk.absent("then(3, 0, 0)", () -> x.then(3, 0, 0));
        Desk.absent("then(-1, 61, 0)", () -> x.then(-1, 61, 0));
        Desk.absent("then(0, 61, 3)", () -> x.then(0, 61, 3));
        Desk.absent("then(0, 0, -1)", () -> x.then(0, 0, -1));
        Desk.illegal("then(0, 61, 0)", () -> x.then(0, 61, 0));
        Desk.illegal("then(0, -1, 2)", () -> x.then(0, -1, 2));
        x.door(0, 2);
        Desk.due("away in the second week", x.then(0, 2, 0), 13);
        Desk.due("as sore as it was", x.then(0, 2, 2), 5);
        Desk.due("there in the third", x.then(0, 3, 0), 16);
    }

    private static void done() {
        BaizeDoor x = Desk.told(THREE);
        Desk.due("done(0)", x.done(0), 5);
        Desk.due("done(1)", x.done(1), 2);
        Desk.due("done(2)", x.done(2), 3);
        x.weeks(4);
        Desk.due("done(0) then", x.done(0), 1);
        Desk.due("done(1) then", x.done(1), 0);
        Desk.absent("done(3)", () -> x.done(3));
        Desk.absent("done(-1)", () -> x.done(-1));
        BaizeDoor y = Desk.told("piece 60;piece 61;pupil 0 0 0;pupil 0 0 1;learns 1;");
        Desk.due("behind 60 weeks", y.done(0), 60);
        Desk.due("behind 61 weeks: none", y.done(1), -1);
    }

    private static void heardAndBest() {
        BaizeDoor x = Desk.told(THREE);
        int[] heard = {0, 4, 7, 8, 9, 10, 10};
        int[] best = {2, 2, 2, 1, 1, 1, 1};
        for (int w = 0; w < heard.length; w++) {
            Desk.due("heard(" + w + ")", x.heard(w), heard[w]);
            Desk.due("best(" + w + ")", x.best(w), best[w]);
        }
        Desk.due("best(60), all at 99", x.best(60), 0);
        Desk.due("heard(60)", x.heard(60), 10);
        x.weeks(1);
        Desk.due("heard(1) from week 1", x.heard(1), 3);
        Desk.illegal("heard(61)", () -> x.heard(61));
        Desk.illegal("heard(-1)", () -> x.heard(-1));
        Desk.illegal("best(61)", () -> x.best(61));
        Desk.illegal("best(-1)", () -> x.best(-1));
        BaizeDoor y = Desk.told("piece 5;pupil 3 0 0;pupil 7 0 0;pupil 7 0 0;");
        Desk.due("of like ones the least", y.best(0), 1);
    }

    private static void stuck() {
        Desk.due("nobody is stuck", Desk.told(THREE).stuck(), 0);
        Desk.due("the first one is", Desk.told("piece 9;pupil 0 0 0;learns 0;").stuck(), 1);
        BaizeDoor x = Desk.told("piece 60;piece 61;piece 5;pupil 0 0 0;pupil 0 0 1;pupil 0 0 2;pupil 0 0 1;learns 1;");
        Desk.due("stuck", x.stuck(), 10);
        x.weeks(1);
        Desk.due("stuck no longer", x.stuck(), 0);
    }

    private static void free() {
        BaizeDoor x = Desk.told(THREE);
        Desk.due("free(0)", x.free(0), ALL_WEEKS);
        x.door(0, 1);
        x.door(0, 30);
        Desk.due("free(0) then", x.free(0), ALL_WEEKS - 1 - (1 << 29));
        Desk.due("free(1): no piano", x.free(1), ALL_WEEKS - 1 - (1 << 29));
        x.pianos(2);
        Desk.due("free(1): one more", x.free(1), ALL_WEEKS);
        Desk.due("free(0): is away", x.free(0), ALL_WEEKS - 1 - (1 << 29));
        x.weeks(1);
        Desk.due("free(0): a week on", x.free(0), ALL_WEEKS - (1 << 28));
        Desk.absent("free(3)", () -> x.free(3));
        Desk.absent("free(-1)", () -> x.free(-1));
    }

    private static void nobodyFullEmpty() {
        BaizeDoor x = Desk.told("piece 5;pupil 0 0 0;pupil 0 0 0;");
        x.door(0, 3);
        x.door(1, 3);
        x.door(1, 30);
        x.door(0, 5);
        int[] due = {0, 0, 1, 1, 1};
        int[] none = {1, 2, 2, 3, 3};
        int[] who = {0, 0, 3, 0, 1};
        for (int k = 1; k <= 5; k++) {
            Desk.due("nobody(" + k + ")", x.nobody(k), due[k - 1]);
            Desk.due("empty(" + k + ")", x.empty(k), none[k - 1]);
            Desk.due("full(" + k + ")", x.full(k), who[k - 1]);
        }
        Desk.due("nobody(30)", x.nobody(30), 1);
        Desk.due("empty(29)", x.empty(29), 27);
        Desk.due("empty(30)", x.empty(30), 27);
        Desk.due("full(30)", x.full(30), 2);
        x.weeks(2);
        Desk.due("nobody(1)", x.nobody(1), 1);
        Desk.due("full(1)", x.full(1), 3);
        Desk.illegal("nobody(0)", () -> x.nobody(0));
        Desk.illegal("nobody(31)", () -> x.nobody(31));
        Desk.illegal("full(0)", () -> x.full(0));
        Desk.illegal("full(31)", () -> x.full(31));
        Desk.illegal("empty(0)", () -> x.empty(0));
        Desk.illegal("empty(31)", () -> x.empty(31));
    }

    private static void through() {
        BaizeDoor x = Desk.told(THREE);
        Desk.due("through(0)", x.through(0), 1);
        Desk.due("through(1): it is enough", x.through(1), 0);
        BaizeDoor y = Desk.told("piece 20;piece 40;piece 41;piece 5;pupil 8 0 0;pupil 0 0 1;pupil 0 0 2;pupil 5 0 3;");
        Desk.due("5, 4, 3", y.through(0), 3);
        Desk.due("30 times", y.through(1), 30);
        Desk.due("30 times aren't enough", y.through(2), -1);
        y.weeks(1);
        Desk.due("the piece is done", y.through(3), 0);
        Desk.absent("through(4)", () -> y.through(4));
        Desk.absent("through(-1)", () -> y.through(-1));
        BaizeDoor z = Desk.told("piece 40;pupil 0 0 0;pupil 0 0 0;pianos 1;");
        z.door(1, 7);
        Desk.due("29 weeks are free", z.through(0), -1);
        BaizeDoor a = Desk.told("piece 10;pupil 0 0 0;learns away;");
        Desk.due("learns nothing: away 0, 1, 2, 3, 4", a.through(0), 5);
    }

    private static void toBeDone() {
        BaizeDoor x = Desk.told(THREE);
        Desk.due("toBeDone(0, 0)", x.toBeDone(0, 0), -1);
        Desk.due("toBeDone(0, 5)", x.toBeDone(0, 5), 0);
        Desk.due("toBeDone(0, 4)", x.toBeDone(0, 4), 5);
        Desk.due("three bars want three lessons", x.toBeDone(0, 2), -1);
        x.weeks(5);
        Desk.due("it is done", x.toBeDone(0, 0), 0);
        Desk.absent("toBeDone(3, 31)", () -> x.toBeDone(3, 31));
        Desk.absent("toBeDone(-1, 0)", () -> x.toBeDone(-1, 0));
        Desk.illegal("toBeDone(0, 31)", () -> x.toBeDone(0, 31));
        Desk.illegal("toBeDone(0, -1)", () -> x.toBeDone(0, -1));
        BaizeDoor y = Desk.told("piece 10;pupil 4 0 0;learns 3;");
        Desk.due("7, 10", y.toBeDone(0, 2), 0);
        Desk.due("once, in a far week", y.toBeDone(0, 1), 1);
        // Only next week is left: one who goes there has no lesson in it.
        BaizeDoor z = Desk.told("piece 10;pupil 4 0 0;pupil 9 0 0;pianos 1;learns 3;");
        for (int k = 2; k <= 30; k++) z.door(1, k);
        Desk.due("only next week", z.free(0), 1);
        Desk.due("away in the one that counts", z.toBeDone(0, 1), -1);
        Desk.due("behind two", z.toBeDone(0, 2), 0);
        BaizeDoor a = Desk.told("piece 20;pupil 0 0 0;pupil 9 0 0;pianos 1;learns sore*10;");
        for (int k = 2; k <= 30; k++) a.door(1, k);
        Desk.due("sore by going to the only week", a.toBeDone(0, 2), 1);
    }

    private static void fits() {
        BaizeDoor x = Desk.told(THREE);
        Desk.due("fits(0, 0)", x.fits(0, 0), 0);
        Desk.due("fits(0, 1)", x.fits(0, 1), 1);
        Desk.due("fits(1, 0): as hard", x.fits(1, 0), 1);
        Desk.due("fits(1, 1): not the last", x.fits(1, 1), 1);
        Desk.due("fits(2, 0)", x.fits(2, 0), 3);
        Desk.due("fits(2, 1)", x.fits(2, 1), 4);
        Desk.due("repertoire(2)", x.repertoire(2), 3);
        Desk.due("repertoire(0)", x.repertoire(0), 0);
        x.weeks(1);
        Desk.due("repertoire(1)", x.repertoire(1), 1);
        x.weeks(1);
        Desk.due("repertoire(1)", x.repertoire(1), 3);
        Desk.absent("fits(3, 0)", () -> x.fits(3, 0));
        Desk.absent("fits(0, 2)", () -> x.fits(0, 2));
        Desk.absent("fits(-1, 0)", () -> x.fits(-1, 0));
        Desk.absent("fits(0, -1)", () -> x.fits(0, -1));
        Desk.absent("repertoire(3)", () -> x.repertoire(3));
        Desk.absent("repertoire(-1)", () -> x.repertoire(-1));
    }

    private static void chooses(String text, int most, int... row) {
        BaizeDoor x = Desk.told(text);
        Desk.due("choice(-1) of " + text, x.choice(-1), most);
        for (int p = 0; p < row.length; p++) Desk.due("choice(" + p + ") of " + text, x.choice(p), row[p]);
        Desk.absent("choice behind", () -> x.choice(row.length));
        Desk.absent("choice(-2)", () -> x.choice(-2));
    }

    private static void choice() {
        chooses(THREE, 5, -1, 0, 1);
        chooses("piece 5 5;piece 5;pupil 9 0 0;pupil 9 0 0;", 3, 0, 1);
        chooses("piece 50;pupil 1 0 0;", 0, 0);
        chooses("piece 9;pupil 1 0 0;pupil 9 0 0;", 1, -1, 0);
        chooses("piece 5;piece 5;pupil 9 0 0;pupil 9 0 0;pupil 9 0 0;", 2, 0, 1, -1);
        chooses("piece 5 5;piece 5;piece 5 8;pupil 9 0 0;pupil 6 0 0;pupil 4 0 0;", 4, 2, 0, 1);
        chooses("piece 5;");
        chooses("");
        chooses("piece 1;piece 1;piece 1;piece 1;piece 1;piece 1 1 1 1 9;pupil 1 0 0;pupil 1 0 0;pupil 1 0 0;"
            + "pupil 1 0 0;pupil 1 0 0;pupil 1 0 0;pupil 9 0 0;", 10, 0, 1, 2, 3, 4, -1, 5);
    }

    private static void chooses(String text) {
        chooses(text, 0);
    }

    private static void hardest() {
        Desk.due("hardest of three", Desk.told(THREE).hardest(), 1);
        Desk.due("of like ones the least", Desk.told("piece 5 7 1;piece 7;piece 6 6;").hardest(), 0);
        Desk.due("the easiest", Desk.told("piece 1;").hardest(), 0);
        Desk.due("the last", Desk.told("piece 5 7 1;piece 7;piece 6 99;").hardest(), 2);
    }

    private static void concert() {
        BaizeDoor x = Desk.told("piece 5;piece 99;pupil 9 0 0;pupil 4 0 1;pupil 4 0 0;pupil 1 0 0;");
        int[] all = {3, 1, 2, 0, -1};
        for (int i = 0; i < all.length; i++) Desk.due("concert(1, " + i + ")", x.concert(1, i), all[i]);
        Desk.due("nobody is done", x.concert(0, 0), -1);
        x.weeks(1);
        int[] done = {3, 2, 0, -1};
        for (int i = 0; i < done.length; i++) Desk.due("concert(0, " + i + ")", x.concert(0, i), done[i]);
        Desk.due("far behind", x.concert(1, Integer.MAX_VALUE), -1);
        Desk.illegal("concert(0, -1)", () -> x.concert(0, -1));
        Desk.illegal("concert(2, 0)", () -> x.concert(2, 0));
        Desk.illegal("concert(-1, 0)", () -> x.concert(-1, 0));
    }

    private static void duet() {
        Desk.due("duet of three", Desk.told(THREE).duet(), 1);
        Desk.due("alone", Desk.told("piece 5;pupil 5 0 0;").duet(), -1);
        Desk.due("of like ones the first", Desk.told("piece 5;pupil 1 0 0;pupil 9 0 0;pupil 5 0 0;").duet(), 2);
        Desk.due("the last two", Desk.told("piece 5;pupil 1 0 0;pupil 9 0 0;pupil 8 0 0;").duet(), 12);
        Desk.due("furthest apart", Desk.told("piece 5;pupil 0 0 0;pupil 99 0 0;").duet(), 1);
    }

    private static void next() {
        BaizeDoor x = Desk.told(THREE);
        Desk.due("next(0)", x.next(0), 1);
        x.weeks(1);
        Desk.due("next(0) then", x.next(0), 3);
        x.weeks(4);
        Desk.due("next(0), done", x.next(0), -1);
        Desk.absent("next(3)", () -> x.next(3));
        Desk.absent("next(-1)", () -> x.next(-1));
        BaizeDoor y = Desk.told("piece 60;piece 61;pupil 0 0 0;pupil 0 0 1;learns 1;");
        Desk.due("behind 60", y.next(0), 60);
        Desk.due("behind 61", y.next(1), -1);
        y.door(0, 1);
        Desk.due("a week away, one practised", y.next(0), 60);
    }

    private static void rush() {
        BaizeDoor x = Desk.told("piece 6;piece 11;pupil 1 0 1;pupil 1 0 1;pupil 1 0 0;");
        Desk.due("rush(1, 0)", x.rush(1, 0), 1);
        Desk.due("rush(1, 1)", x.rush(1, 1), 1);
        Desk.due("rush(2, 0)", x.rush(2, 0), 2);
        Desk.due("rush(2, 1)", x.rush(2, 1), 2);
        Desk.due("rush(60, 0)", x.rush(60, 0), 2);
        x.weeks(2);
        Desk.due("no more", x.rush(60, 1), 0);
        Desk.due("the first of none", x.rush(60, 0), 1);
        BaizeDoor y = Desk.told("piece 6;piece 11;pupil 1 0 1;pupil 1 0 0;");
        Desk.due("of like ones the first", y.rush(60, 0), 1);
        Desk.absent("rush(0, 2)", () -> x.rush(0, 2));
        Desk.absent("rush(5, -1)", () -> x.rush(5, -1));
        Desk.illegal("rush(0, 0)", () -> x.rush(0, 0));
        Desk.illegal("rush(61, 1)", () -> x.rush(61, 1));
    }

    private static void sorest() {
        BaizeDoor x = Desk.told("piece 5;pupil 0 3 0;pupil 0 5 0;pupil 0 5 0;");
        Desk.due("sorest(0)", x.sorest(0), 1);
        Desk.due("sorest(60), none is", x.sorest(60), 0);
        x.door(2, 1);
        Desk.due("sorest(0)", x.sorest(0), 2);
        x.gloves(2, 2);
        Desk.due("like ones", x.sorest(0), 1);
        Desk.due("sorest(1), one was away", x.sorest(1), 2);
        Desk.illegal("sorest(61)", () -> x.sorest(61));
        Desk.illegal("sorest(-1)", () -> x.sorest(-1));
    }

    private static void toGlove() {
        BaizeDoor x = Desk.told("piece 14;piece 99;pupil 10 9 0;pupil 10 2 0;pupil 10 9 1;pupil 10 5 0;");
        Desk.due("sore 3 at most gives 4", x.toGlove(0), 6);
        Desk.due("it does so without", x.toGlove(1), 0);
        Desk.due("too hard", x.toGlove(2), -1);
        Desk.due("from 5 to 3", x.toGlove(3), 2);
        x.door(1, 1);
        Desk.due("away next week", x.toGlove(1), -1);
        x.weeks(1);
        x.weeks(1);
        Desk.due("done", x.toGlove(1), -1);
        BaizeDoor y = Desk.told("piece 20;pupil 0 9 0;learns 20*(sore=0);");
        Desk.due("all of it", y.toGlove(0), 9);
        Desk.absent("toGlove(4)", () -> x.toGlove(4));
        Desk.absent("toGlove(-1)", () -> x.toGlove(-1));
    }

    private static void common() {
        BaizeDoor x = Desk.told("piece 1 2 3 2 4;study 2 4 3 1 2;piece 9;piece 1 2 3 4 5 6 7 8;study 8 7 6 5 4 3 2 1;");
        Desk.due("common(0, 1)", x.common(0, 1), 3);
        Desk.due("common(1, 0)", x.common(1, 0), 3);
        Desk.due("common(0, 2)", x.common(0, 2), 0);
        Desk.due("common(0, 3)", x.common(0, 3), 4);
        Desk.due("common(3, 4)", x.common(3, 4), 1);
        Desk.due("common(2, 2)", x.common(2, 2), 1);
        Desk.due("common(3, 3)", x.common(3, 3), 8);
        Desk.absent("common(5, 0)", () -> x.common(5, 0));
        Desk.absent("common(0, 5)", () -> x.common(0, 5));
        Desk.absent("common(-1, 0)", () -> x.common(-1, 0));
        Desk.absent("common(0, -1)", () -> x.common(0, -1));
    }

    private static void workAndMates() {
        BaizeDoor x = Desk.told(THREE);
        Desk.due("work(0)", x.work(0), 45);
        Desk.due("work(1)", x.work(1), 55);
        Desk.absent("work(2)", () -> x.work(2));
        Desk.absent("work(-1)", () -> x.work(-1));
        Desk.due("mates(0)", x.mates(0), 4);
        Desk.due("mates(1)", x.mates(1), 0);
        Desk.due("mates(2)", x.mates(2), 1);
        x.begin(1, 0);
        Desk.due("mates(1) then", x.mates(1), 5);
        Desk.due("mates(0) then", x.mates(0), 6);
        Desk.absent("mates(3)", () -> x.mates(3));
        Desk.absent("mates(-1)", () -> x.mates(-1));
    }

    private static void nothingIsChanged() {
        BaizeDoor x = Desk.told(THREE);
        x.door(0, 2);
        x.then(0, 60, 0);
        x.done(0);
        x.heard(60);
        x.best(60);
        x.stuck();
        x.through(0);
        x.toBeDone(0, 4);
        x.next(0);
        x.rush(60, 0);
        x.sorest(60);
        x.toGlove(0);
        x.been(0);
        x.listen(0);
        x.game(0, 1, 0);
        x.years(7, 60, 0);
        int[] counts = {2, 3, 1, 0, 0, 0, 51, 1, 0, 0, 0, 0, 0};
        for (int i = 0; i < counts.length; i++) Desk.due("unchanged: count(" + i + ")", x.count(i), counts[i]);
        int[] pupil = {11, 6, 0, 0, 2, 0, 2};
        for (int i = 0; i < pupil.length; i++) Desk.due("unchanged: pupil(0, " + i + ")", x.pupil(0, i), pupil[i]);
    }
}
