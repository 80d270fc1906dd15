/** Promises 5 to 14, 45, 46: what there is, what acts change, how they are undone, the image. */
public final class ActsTest {
    private static final String THREE =
        "piece 10 20 15;study 5 12 30 8;pupil 8 4 0;prodigy 10 0 1;pupil 30 9 0;pianos 1;";

    public static void main(String[] args) {
        Desk.within(120);
        counts();
        pieces();
        pupils();
        weeks();
        weeksUpTo999();
        lessons();
        door();
        doorIsLimited();
        gloves();
        begin();
        pianos();
        undo();
        onlyFortyAreKept();
        image();
        imageKeepsWhatIsSeen();
        imageKeepsActs();
        Desk.end();
    }

    private static void row(String what, int[] got, int... due) {
        for (int i = 0; i < due.length; i++) Desk.due(what + " " + i, got[i], due[i]);
    }

    private static int[] pupil(BaizeDoor x, int p) {
        int[] all = new int[7];
        for (int i = 0; i < 7; i++) all[i] = x.pupil(p, i);
        return all;
    }

    private static int[] counts(BaizeDoor x) {
        int[] all = new int[13];
        for (int i = 0; i < 13; i++) all[i] = x.count(i);
        return all;
    }

    private static void counts() {
        BaizeDoor x = Desk.told(THREE);
        row("told: count", counts(x), 2, 3, 1, 0, 0, 0, 48, 0, 0, 0, 0, 0, 0);
        x.weeks(2);
        x.door(2, 1);
        x.see(1, 3, 2);
        x.weeks(0);
        x.weeks(21);
        x.see(1, 0, 2);
        x.feed(0, 0, 0, 0, 0);
        x.school(3);
        x.feed(0, 0, 0, 0, 0);
        row("later: count", counts(x), 2, 3, 1, 2, 4, 2, 79, 2, 1, 20, 1, 2, 1);
        Desk.absent("count(-1)", () -> x.count(-1));
        Desk.absent("count(13)", () -> x.count(13));
    }

    private static void pieces() {
        BaizeDoor x = Desk.told("piece 10 20 15;study 5 12 30 8;piece 9 5 1;study 7;piece 1 2 3 4 5 6 7 99;");
        int[][] due = {{3, 0, 10}, {4, 1, 18}, {3, 0, 0}, {1, 1, 0}, {8, 0, 92}};
        for (int p = 0; p < 5; p++) {
            for (int i = 0; i < 3; i++) Desk.due("piece(" + p + ", " + i + ")", x.piece(p, i), due[p][i]);
        }
        Desk.due("bar(0, 0)", x.bar(0, 0), 10);
        Desk.due("bar(1, 3)", x.bar(1, 3), 8);
        Desk.due("bar(4, 7)", x.bar(4, 7), 99);
        Desk.absent("bar(0, 3)", () -> x.bar(0, 3));
        Desk.absent("bar(0, -1)", () -> x.bar(0, -1));
        Desk.absent("bar(5, 0)", () -> x.bar(5, 0));
        Desk.absent("bar(-1, 0)", () -> x.bar(-1, 0));
        Desk.absent("bar(4, 8)", () -> x.bar(4, 8));
        Desk.absent("piece(5, 0)", () -> x.piece(5, 0));
        Desk.absent("piece(-1, 0)", () -> x.piece(-1, 0));
        Desk.absent("piece(0, 3)", () -> x.piece(0, 3));
        Desk.absent("piece(0, -1)", () -> x.piece(0, -1));
    }

    private static void pupils() {
        BaizeDoor x = Desk.told(THREE);
        row("pupil 0", pupil(x, 0), 8, 4, 0, 0, 0, 0, 3);
        row("pupil 1", pupil(x, 1), 10, 0, 1, 0, 0, 1, 10);
        row("pupil 2", pupil(x, 2), 30, 9, 0, 0, 0, 0, 1);
        x.door(0, 30);
        row("pupil 0, gone to 30", pupil(x, 0), 11, 6, 0, 0, 1 << 29, 0, 2);
        Desk.absent("pupil(3, 0)", () -> x.pupil(3, 0));
        Desk.absent("pupil(-1, 0)", () -> x.pupil(-1, 0));
        Desk.absent("pupil(0, 7)", () -> x.pupil(0, 7));
        Desk.absent("pupil(0, -1)", () -> x.pupil(0, -1));
        BaizeDoor y = Desk.told("piece 5;prodigy 95 0 0;pupil 99 0 0;prodigy 0 0 0;learns 300;");
        Desk.due("to 99", y.pupil(0, 6), 4);
        Desk.due("at 99", y.pupil(1, 6), 0);
        Desk.due("as much again, of 20", y.pupil(2, 6), 40);
        BaizeDoor z = Desk.told("piece 5;prodigy 50 0 0;learns 0-3;");
        Desk.due("never less", z.pupil(0, 6), 0);
    }

    private static void weeks() {
        BaizeDoor x = Desk.told(THREE);
        Desk.due("weeks(1)", x.weeks(1), 1);
        row("pupil 0", pupil(x, 0), 11, 3, 0, 1, 0, 0, 4);
        row("pupil 1", pupil(x, 1), 20, 0, 1, 2, 0, 1, 10);
        row("pupil 2", pupil(x, 2), 31, 8, 0, 1, 0, 0, 1);
        Desk.due("weeks(4)", x.weeks(4), 5);
        row("pupil 0", pupil(x, 0), 29, 0, 0, 3, 0, 0, 5);
        row("pupil 1", pupil(x, 1), 60, 0, 1, 4, 0, 1, 10);
        Desk.due("all are done", x.count(5), 7);
        Desk.due("weeks(0)", x.weeks(0), -1);
        Desk.due("weeks(-1)", x.weeks(-1), -1);
        Desk.due("weeks(21)", x.weeks(21), -1);
        Desk.due("weeks most", x.weeks(Integer.MAX_VALUE), -1);
        Desk.due("weeks least", x.weeks(Integer.MIN_VALUE), -1);
        Desk.due("status 1", x.count(11), 5);
        Desk.due("two acts", x.count(7), 2);
        Desk.due("weeks(20)", x.weeks(20), 25);
        Desk.due("skill 99 at most", x.pupil(1, 0), 99);
    }

    private static void weeksUpTo999() {
        BaizeDoor x = Desk.told("piece 5;pupil 0 0 0;");
        for (int i = 1; i <= 49; i++) x.weeks(20);
        Desk.due("980 weeks", x.count(3), 980);
        Desk.due("weeks(20) to 1000", x.weeks(20), -1);
        Desk.due("weeks(19) to 999", x.weeks(19), 999);
        Desk.due("weeks(1) to 1000", x.weeks(1), -1);
        Desk.due("status 1", x.count(11), 2);
        Desk.due("the door of week 999", x.door(0, 30), 99);
        Desk.due("then goes on", x.then(0, 60, 0), 99);
    }

    private static void lessons() {
        BaizeDoor x = Desk.told("piece 5 5 5 60;study 5 5 5 60;pupil 50 0 0;pupil 50 0 1;");
        x.weeks(1);
        Desk.due("a piece: one bar a lesson", x.pupil(0, 3), 1);
        Desk.due("a study: all bars for which skill is enough", x.pupil(1, 3), 3);
        x.weeks(1);
        Desk.due("a piece", x.pupil(0, 3), 2);
        Desk.due("as much as hard is enough", x.pupil(1, 3), 4);
        x.weeks(2);
        Desk.due("the piece too", x.pupil(0, 3), 4);
        x.weeks(1);
        Desk.due("no more bars than there are", x.pupil(0, 3), 4);
    }

    private static void door() {
        BaizeDoor x = Desk.told(THREE);
        Desk.due("door(0, 2)", x.door(0, 2), 11);
        row("pupil 0", pupil(x, 0), 11, 6, 0, 0, 2, 0, 2);
        Desk.due("no lesson", x.pupil(0, 3), 0);
        Desk.due("door(2, 1)", x.door(2, 1), 31);
        Desk.due("sore 9 at most", x.pupil(2, 1), 9);
        Desk.due("a prodigy", x.door(1, 3), 20);
        Desk.due("away next week", x.count(4), 4);
        x.weeks(1);
        row("pupil 2, was away", pupil(x, 2), 31, 9, 0, 0, 0, 0, 1);
        row("pupil 0, was there", pupil(x, 0), 13, 5, 0, 1, 1, 0, 3);
        Desk.due("away next week", x.count(4), 1);
        x.weeks(1);
        row("pupil 0, was away", pupil(x, 0), 13, 5, 0, 1, 0, 0, 3);
        Desk.due("to 30 weeks from now", x.door(0, 30), 16);
        Desk.due("bit 29", x.pupil(0, 4), 1 << 29);
        x.weeks(20);
        Desk.due("bit 9", x.pupil(0, 4), 1 << 9);
    }

    private static void doorIsLimited() {
        BaizeDoor x = Desk.told(THREE);
        x.door(0, 5);
        Desk.due("one is away in that", x.door(0, 5), -1);
        Desk.due("the piano is taken", x.door(1, 5), -1);
        Desk.due("no such week", x.door(1, 0), -1);
        Desk.due("no such week", x.door(1, 31), -1);
        Desk.due("no such week", x.door(1, 37), -1);
        Desk.due("no such week", x.door(1, -27), -1);
        Desk.due("status 1", x.count(11), 6);
        Desk.due("one act", x.count(7), 1);
        Desk.absent("door(3, 1)", () -> x.door(3, 1));
        Desk.absent("door(-1, 99)", () -> x.door(-1, 99));
        Desk.due("status 1 stays", x.count(11), 6);
        x.pianos(2);
        Desk.due("now there is one left", x.door(1, 5), 20);
        Desk.due("and none", x.door(2, 5), -1);
        x.pianos(1);
        Desk.due("who is away stays so", x.full(5), 3);
        Desk.due("fewer pianos than away", x.door(2, 5), -1);
    }

    private static void gloves() {
        BaizeDoor x = Desk.told(THREE);
        Desk.due("gloves(0, 1)", x.gloves(0, 1), 3);
        Desk.due("gloves(2, 9)", x.gloves(2, 9), 0);
        Desk.due("gloves(0, 5), not below 0", x.gloves(0, 5), 0);
        Desk.due("gloves(0, 1), of nothing", x.gloves(0, 1), 0);
        Desk.due("four acts", x.count(7), 4);
        Desk.due("gloves(0, 0)", x.gloves(0, 0), -1);
        Desk.due("gloves(0, 10)", x.gloves(0, 10), -1);
        Desk.due("gloves(0, -1)", x.gloves(0, -1), -1);
        Desk.due("status 1", x.count(11), 3);
        Desk.absent("gloves(3, 0)", () -> x.gloves(3, 0));
        Desk.due("status 1 stays", x.count(11), 3);
        Desk.due("learns more", x.pupil(2, 6), 5);
    }

    private static void begin() {
        BaizeDoor x = Desk.told(THREE);
        x.weeks(2);
        Desk.due("begin(2, 1)", x.begin(2, 1), 0);
        Desk.due("no bar is done", x.pupil(2, 3), 0);
        Desk.due("the piece", x.pupil(2, 2), 1);
        Desk.due("begin(2, 1) again", x.begin(2, 1), -1);
        Desk.due("begin(1, 1), done", x.begin(1, 1), -1);
        Desk.due("status 1", x.count(11), 2);
        Desk.due("begin(2, 0) back", x.begin(2, 0), 1);
        Desk.due("and anew", x.pupil(2, 3), 0);
        Desk.absent("begin(3, 0)", () -> x.begin(3, 0));
        Desk.absent("begin(-1, 0)", () -> x.begin(-1, 0));
        Desk.absent("begin(0, 2)", () -> x.begin(0, 2));
        Desk.absent("begin(0, -1)", () -> x.begin(0, -1));
        Desk.due("status 1 stays", x.count(11), 2);
        Desk.due("acts", x.count(7), 3);
    }

    private static void pianos() {
        BaizeDoor x = Desk.told(THREE);
        Desk.due("pianos(4)", x.pianos(4), 1);
        Desk.due("pianos(4) again", x.pianos(4), 4);
        Desk.due("pianos(0)", x.pianos(0), -1);
        Desk.due("pianos(5)", x.pianos(5), -1);
        Desk.due("pianos are 4", x.count(2), 4);
        Desk.due("status 1", x.count(11), 2);
        Desk.due("acts", x.count(7), 2);
    }

    private static void undo() {
        BaizeDoor x = Desk.told(THREE);
        x.weeks(2);
        x.door(0, 1);
        x.gloves(2, 3);
        x.begin(1, 0);
        x.pianos(3);
        x.weeks(7);
        x.weeks(0);
        x.see(0, 1, 1);
        Desk.due("undo weeks", x.undo(), 5);
        Desk.due("the week", x.count(3), 2);
        row("pupil 0", pupil(x, 0), 19, 4, 0, 1, 1, 0, 3);
        Desk.due("undo pianos", x.undo(), 4);
        Desk.due("pianos", x.count(2), 1);
        Desk.due("piece 0 yet", x.pupil(1, 2), 0);
        Desk.due("undo begin", x.undo(), 3);
        row("pupil 1", pupil(x, 1), 30, 0, 1, 4, 0, 1, 10);
        Desk.due("sore 4 yet", x.pupil(2, 1), 4);
        Desk.due("undo gloves", x.undo(), 2);
        Desk.due("sore 7", x.pupil(2, 1), 7);
        Desk.due("undo door", x.undo(), 1);
        row("pupil 0", pupil(x, 0), 15, 2, 0, 1, 0, 0, 4);
        Desk.due("undo weeks", x.undo(), 0);
        row("pupil 0", pupil(x, 0), 8, 4, 0, 0, 0, 0, 3);
        Desk.due("undo nothing", x.undo(), -1);
        Desk.due("status stays", x.count(11), 1);
        Desk.due("seen stays", x.count(8), 1);
    }

    private static void onlyFortyAreKept() {
        BaizeDoor x = Desk.told("piece 5;pupil 0 0 0;");
        for (int i = 1; i <= 45; i++) {
            x.weeks(1);
            Desk.due("kept", x.count(7), Math.min(40, i));
        }
        for (int i = 39; i >= 0; i--) {
            Desk.due("undo", x.undo(), i);
            Desk.due("the week", x.count(3), 5 + i);
        }
        Desk.due("no more", x.undo(), -1);
        Desk.due("skill of week 5", x.pupil(0, 0), 25);
        x.weeks(2);
        Desk.due("kept again", x.count(7), 1);
        Desk.due("undone again", x.undo(), 0);
        Desk.due("the week", x.count(3), 5);
    }

    private static void image() {
        BaizeDoor x = Desk.told(THREE);
        Desk.due("no image", x.restore() ? 1 : 0, 0);
        x.weeks(1);
        x.door(0, 4);
        x.see(1, 2, 3);
        x.weeks(0);
        int[] then = counts(x);
        int[] one = pupil(x, 0);
        x.image();
        Desk.due("image changes nothing", x.count(7), 2);
        x.weeks(5);
        x.pianos(4);
        x.begin(0, 1);
        x.see(1, 2, 4);
        x.see(1, 2, 9);
        x.weeks(0);
        Desk.tell(x, "x");
        Desk.due("restore", x.restore() ? 1 : 0, 1);
        row("restored: count", counts(x), then);
        row("restored: pupil 0", pupil(x, 0), one);
        x.forget();
        x.undo();
        x.undo();
        Desk.due("restore again", x.restore() ? 1 : 0, 1);
        row("restored again: count", counts(x), then);
        Desk.due("what was seen", x.been(2), 0);
        x.forget();
        x.see(0, 20, 3);
        Desk.due("something else", x.been(2), 1);
        x.restore();
        Desk.due("what was seen", x.been(2), 0);
        x.weeks(3);
        x.image();
        x.weeks(3);
        x.restore();
        Desk.due("the later image", x.count(3), 4);
        Desk.tell(x, THREE);
        Desk.due("no image of another school", x.restore() ? 1 : 0, 0);
    }

    private static void imageKeepsWhatIsSeen() {
        BaizeDoor x = Desk.told("piece 10 20;pupil 0 0 0;pupil 5 0 0;");
        x.see(1, 3, 1);
        x.image();
        x.forget();
        x.see(0, 5, 0);
        x.see(1, 20, 8);
        x.restore();
        Desk.due("seen", x.count(8), 1);
        Desk.due("away in 1, 2 or 3", x.been(0), 3);
        Desk.due("the first", x.been(1), 101);
        Desk.due("not without", x.been(2), 0);
    }

    private static void imageKeepsActs() {
        BaizeDoor x = Desk.told("piece 5;pupil 0 0 0;");
        for (int i = 0; i < 43; i++) x.weeks(1);
        x.image();
        for (int i = 0; i < 30; i++) x.undo();
        for (int i = 0; i < 35; i++) x.weeks(2);
        x.restore();
        Desk.due("acts", x.count(7), 40);
        for (int i = 39; i >= 0; i--) {
            x.undo();
            Desk.due("the week", x.count(3), 3 + i);
        }
        x.feed(0, 0, 0, 0, 0);
        x.restore();
        Desk.due("the tape is no part of it", x.count(9), 20);
    }
}
