/** Promises 2 to 4: the tape, a school's text, its faults; and the arithmetic of what one learns. */
public final class TextTest {
    public static void main(String[] args) {
        Desk.within(120);
        tape();
        schoolOfTheTape();
        lines();
        pupilsAndPianos();
        expressions();
        nesting();
        tokens();
        limits();
        faultKeepsAll();
        allAnew();
        arithmetic();
        values();
        Desk.end();
    }

    private static void fault(String text, int due, int place) {
        Desk.fault(text, due, place);
    }

    private static void fine(String text) {
        Desk.fine(text);
    }

    private static void tape() {
        BaizeDoor x = new BaizeDoor();
        for (int i = 1; i <= 35; i++) Desk.due("feed " + i, x.feed(i, 0, -1, 0, i), 20 * i);
        Desk.due("feed beyond 700", x.feed(0, 0, 0, 0, 0), -1);
        Desk.due("count(9), full", x.count(9), 700);
        Desk.due("no status of the tape", x.count(10) + x.count(11) + x.count(12), 0);
        Desk.due("700 bytes that are none", x.school(700), 1);
        Desk.due("fault() there", x.fault(), 0);
        Desk.due("feed again", x.feed(0, 0, 0, 0, 0), 20);
        BaizeDoor y = new BaizeDoor();
        // "stud" "y 1 " "2 3;" and the same as a piece: the highest byte is the first one.
        y.feed(0x73747564, 0x79203120, 0x3220333b, 0x70696563, 0x65203920);
        y.feed(0x383b2020, 0x20202020, 0x20202020, 0x20202020, 0x20202020);
        Desk.due("school(40)", y.school(40), 0);
        Desk.due("bar(0, 2)", y.bar(0, 2), 3);
        Desk.due("bar(1, 1)", y.bar(1, 1), 8);
        Desk.due("piece(0, 1)", y.piece(0, 1), 1);
    }

    private static void schoolOfTheTape() {
        BaizeDoor x = new BaizeDoor();
        Desk.illegal("school(1), nothing fed", () -> x.school(1));
        Desk.illegal("school(-1)", () -> x.school(-1));
        Desk.due("school of 'x'", Desk.tell(x, "x"), 1);
        Desk.feed(x, "piece 5;piece 6;");
        Desk.illegal("school(21)", () -> x.school(21));
        Desk.illegal("school(-1)", () -> x.school(-1));
        Desk.illegal("school least", () -> x.school(Integer.MIN_VALUE));
        Desk.due("count(9): nothing changed", x.count(9), 20);
        Desk.due("fault(): nothing changed", x.fault(), 0);
        Desk.due("count(10): nothing changed", x.count(10), 1);
        Desk.due("school(8), of twenty", x.school(8), 0);
        Desk.due("count(0)", x.count(0), 1);
        Desk.due("fault() is gone", x.fault(), -1);
        Desk.due("the rest of the tape is gone", x.count(9), 0);
        Desk.illegal("school(1) then", () -> x.school(1));
        Desk.due("school(0)", x.school(0), 0);
        Desk.due("no pieces then", x.count(0), 0);
    }

    private static void lines() {
        fine("");
        fine(" \n \n");
        fault("x", 1, 0);
        fault("  x", 1, 2);
        fault(";", 1, 0);
        fault("5", 1, 0);
        fault("123456", 1, 0);
        fault("pieces 5;", 1, 0);
        fault("piec 5;", 1, 0);
        fault("skill 5;", 1, 0);
        fault("piece", 1, 5);
        fault("piece  ", 1, 7);
        fault("piece;", 1, 5);
        fault("piece x;", 1, 6);
        fault("piece 0;", 2, 6);
        fault("piece 100;", 2, 6);
        fine("piece 99;study 1;");
        fine("piece 0001;");
        fault("piece 00001;", 2, 6);
        fault("piece 5 12345;", 2, 8);
        fault("piece 5 0;", 2, 8);
        fault("piece 5", 1, 7);
        fault("piece 5 piece 6;", 1, 8);
        fault("piece 5 x;", 1, 8);
        fault("piece 5;;", 1, 8);
        fault("piece 5;6;", 1, 8);
        fine("piece5 6;study7;");
    }

    private static void pupilsAndPianos() {
        fault("pupil 1 1 0;", 3, 10);
        fault("pupil 1 1 0;piece 5;", 3, 10);
        fine("piece 5;pupil 0 0 0;prodigy 99 9 0;");
        fault("piece 5;pupil 100 1 0;", 2, 14);
        fault("piece 5;pupil 99 10 0;", 2, 17);
        fault("piece 5;pupil 99 9 1;", 3, 19);
        fault("piece 5;prodigy 99 9 9999;", 3, 21);
        fault("piece 5;pupil 99 9 12345;", 2, 19);
        fault("piece 5;pupil 99 9;", 1, 18);
        fault("piece 5;pupil 99 9 x;", 1, 19);
        fault("piece 5;pupil;", 1, 13);
        fault("piece 5;pupil 9 9 0", 1, 19);
        fault("piece 5;pupil 9 9 0 0;", 1, 20);
        fault("pianos 0;", 2, 7);
        fault("pianos 5;", 2, 7);
        fine("pianos 4;");
        fine("pianos 1;");
        fault("pianos;", 1, 6);
        fault("pianos 1 2;", 1, 9);
        fault("pianos 1;pianos 2;", 5, 9);
        fault("pianos 1;pianos", 5, 9);
        fault("pianos 1;piano 2;", 1, 9);
        fault("learns 1;learns 2;", 5, 9);
        fault("learns 1;pianos 2;learns;", 5, 18);
    }

    private static void expressions() {
        fault("learns;", 1, 6);
        fault("learns ", 1, 7);
        fault("learns 1", 1, 8);
        fault("learns foo;", 3, 7);
        fault("learns or;", 3, 7);
        fault("learns piece;", 3, 7);
        fault("learns skills;", 3, 7);
        fault("learns z;", 3, 7);
        fault("learns skillz;", 3, 7);
        fault("learns 1 or;", 1, 11);
        fault("learns 1 or or 2;", 3, 12);
        fault("learns 1 and and;", 3, 13);
        fault("learns 1+not 2;", 3, 9);
        fault("learns 1<not 2;", 3, 9);
        fault("learns 1*not 2;", 3, 9);
        fault("learns 1<2<3;", 1, 10);
        fault("learns 1=2<3;", 1, 10);
        fault("learns 1<<3;", 1, 9);
        fault("learns 1 2;", 1, 9);
        fault("learns 1 12345;", 1, 9);
        fault("learns 1 skill;", 1, 9);
        fault("learns 1 not 2;", 1, 9);
        fault("learns 1 (2);", 1, 9);
        fault("learns -1;", 1, 7);
        fault("learns 1--1;", 1, 9);
        fault("learns 12345;", 2, 7);
        fault("learns 1+00000;", 2, 9);
        fine("learns 9999;");
        fine("learns 0000;");
        fault("learns (1;", 1, 9);
        fault("learns 1);", 1, 8);
        fault("learns ();", 1, 8);
        fault("learns (1", 1, 9);
        fault("learns (foo);", 3, 8);
        fine("learns skill+sore-hard*bar/bars<away;");
        fine("learns 1or 2and not 3;");
        fault("learns 1or2and3not;", 1, 15);
    }

    private static void nesting() {
        fine("learns not not not not not not 1;");
        fault("learns not not not not not not not 1;", 2, 31);
        fault("learns not not not not not not not", 2, 31);
        fine("learns not not not not not not (not 1);");
        fine("learns not not not not not not 1 and not 1;");
        fault("learns not;", 1, 10);
        fine("learns (((((1)))));");
        fine("learns (((((1)))))+(((((2)))));");
        fault("learns ((((((1))))));", 2, 13);
        fault("learns ((((((foo", 2, 13);
        fault("learns ((((((not 1", 2, 13);
        fault("learns ((((((or", 2, 13);
        fault("learns ((((((skill", 2, 13);
        fault("learns (((((((", 2, 13);
        fault("learns ((((((12345", 2, 13);
        fault("learns (((((()", 1, 13);
        fault("learns ((((((;", 1, 13);
        fault("learns ((((((+", 1, 13);
        fault("learns ((((((A", 1, 13);
        fault("learns ((((((", 1, 13);
        fault("learns (((((( ", 1, 14);
    }

    private static void tokens() {
        fault("Piece 5;", 1, 0);
        fault("piece\t5;", 1, 5);
        fault("piece 5\r;", 1, 7);
        fault("piece 5,6;", 1, 7);
        fault("piece " + (char) 233, 1, 6);
        fault("piece 5;" + (char) 0, 1, 8);
        fault("piece 5;learns 1>0;", 1, 16);
        fault("piece 5;learns A;", 1, 15);
        fine("piece\n5\n;\n");
    }

    private static void limits() {
        StringBuilder six = new StringBuilder();
        for (int i = 0; i < 6; i++) six.append(i % 2 == 0 ? "piece 5;" : "study 5;");
        fine(six.toString());
        fault(six + "piece 5;", 2, 48);
        fault(six + "study", 2, 48);
        fault(six + "piec", 1, 48);
        fine("piece 1 2 3 4 5 6 7 8;");
        fault("piece 1 2 3 4 5 6 7 8 9;", 2, 22);
        fault("piece 1 2 3 4 5 6 7 8 12345;", 2, 22);
        fault("piece 1 2 3 4 5 6 7 8 x;", 1, 22);
        StringBuilder seven = new StringBuilder("piece 5;");
        for (int i = 0; i < 7; i++) seven.append("pupil 1 1 0;");
        fine(seven.toString());
        fault(seven + "pupil 1 1 0;", 2, 92);
        fault(seven + "prodigy", 2, 92);
        StringBuilder sum = new StringBuilder("piece 5;pupil 0 0 0;learns 1");
        int ones = 1;
        for (; sum.length() < 694; ones++) sum.append("+1");
        String text = sum + "=" + ones + ";";
        text = " ".repeat(700 - text.length()) + text;
        BaizeDoor x = Desk.told(text);
        Desk.due("the longest sum", x.pupil(0, 6), 1);
    }

    private static void faultKeepsAll() {
        BaizeDoor x = Desk.told("piece 10;pupil 8 4 0;pianos 3;");
        x.weeks(1);
        x.see(0, 1, 1);
        x.image();
        Desk.due("a text with a fault", Desk.tell(x, "piece 7;pupil 1 1 0;piece 0;"), 2);
        Desk.due("its place", x.fault(), 26);
        Desk.due("pieces stay", x.bar(0, 0), 10);
        Desk.due("pupils stay", x.pupil(0, 0), 11);
        Desk.due("the week stays", x.count(3), 1);
        Desk.due("pianos stay", x.count(2), 3);
        Desk.due("acts stay", x.count(7), 1);
        Desk.due("seen stays", x.count(8), 1);
        Desk.due("status", x.count(10), 1);
        Desk.due("the image stays", x.restore() ? 1 : 0, 1);
        Desk.due("status of the image", x.count(10), 0);
        Desk.due("fault() is no part of it", x.fault(), 26);
        Desk.due("undo()", x.undo(), 0);
        Desk.due("skill ahead of it", x.pupil(0, 0), 8);
        Desk.due("a fault in the rule", Desk.tell(x, "piece 7;learns 20*;"), 1);
        Desk.due("the rule stays (none)", x.pupil(0, 6), 3);
    }

    private static void allAnew() {
        BaizeDoor x = Desk.told("piece 10;pupil 8 4 0;pianos 3;learns 7;");
        x.weeks(1);
        x.weeks(0);
        x.door(0, 3);
        x.see(0, 1, 1);
        x.see(0, 0, 1);
        x.image();
        Desk.tell(x, "x");
        Desk.due("another school", Desk.tell(x, "study 6 7;prodigy 5 2 0;pupil 1 0 0;"), 0);
        int[] due = {1, 2, 2, 0, 0, 0, 6, 0, 0, 0, 1, 1, 1};
        for (int i = 0; i < due.length; i++) Desk.due("anew: count(" + i + ")", x.count(i), due[i]);
        int[] pupil = {5, 2, 0, 0, 0, 1, 8};
        for (int i = 0; i < pupil.length; i++) Desk.due("anew: pupil(0, " + i + ")", x.pupil(0, i), pupil[i]);
        Desk.due("anew: piece(0, 1)", x.piece(0, 1), 1);
        Desk.due("anew: undo()", x.undo(), -1);
        Desk.due("anew: restore()", x.restore() ? 1 : 0, 0);
        Desk.due("anew: been(0)", x.been(0), 40);
        x.weeks(3);
        x.door(0, 5);
        x.pianos(4);
        Desk.due("a fault behind much else", Desk.tell(x, "study 1 2 3;piece 4;pupil 1 1 1;pianos 3;learns 9;x"), 1);
        Desk.due("a third school", Desk.tell(x, "piece 50;pupil 5 2 0;"), 0);
        int[] third = {1, 1, 2, 0, 0, 0, 5, 0, 0, 0, 2, 1, 1};
        for (int i = 0; i < third.length; i++) Desk.due("third: count(" + i + ")", x.count(i), third[i]);
        int[] one = {5, 2, 0, 0, 0, 0, 4};
        for (int i = 0; i < one.length; i++) Desk.due("third: pupil(0, " + i + ")", x.pupil(0, i), one[i]);
        Desk.due("third: piece(0, 0)", x.piece(0, 0), 1);
        Desk.due("third: piece(0, 1)", x.piece(0, 1), 0);
    }

    private static void gives(String rule, int due) {
        BaizeDoor x = Desk.told("piece 11 22 33;pupil 7 3 0;learns " + rule + ";");
        Desk.due("learns " + rule, x.pupil(0, 6), due);
    }

    private static void arithmetic() {
        gives("7", 7);
        gives("25", 20);
        gives("0-5", 0);
        gives("10-3-2", 5);
        gives("20/3*2", 12);
        gives("2+3*4", 14);
        gives("7/2", 3);
        gives("(0-7)/2+10", 7);
        gives("5/0+3", 3);
        gives("3<5", 1);
        gives("5<3", 0);
        gives("5<5", 0);
        gives("5=5", 1);
        gives("5=4", 0);
        gives("2 and 3", 1);
        gives("2 and 0", 0);
        gives("0 and 2", 0);
        gives("0 or 4", 1);
        gives("4 or 0", 1);
        gives("0 or 0", 0);
        gives("(0-1) or 0", 1);
        gives("not 5", 0);
        gives("not 0", 1);
        gives("not not 9", 1);
        gives("not 2<1", 1);
        gives("not 1<2", 0);
        gives("not 0+5", 0);
        gives("1+1=2", 1);
        gives("1 or 0 and 0", 1);
        gives("0 and 0 or 1", 1);
        gives("(5 or 0)*7", 7);
        gives("3<5 and 7", 1);
        gives("not 1 or 1", 1);
        gives("not 0 and 0", 0);
        gives("9999*9999*9999*9999<0", 9999 * 9999 * 9999 * 9999 < 0 ? 1 : 0);
        gives("2048*2048*512<0", 1);
        gives("2048*2048*512/(0-1)<0", 1);
        gives("2048*2048*512-1<0", 0);
        gives("4096*4096*256+6", 6);
    }

    private static void values() {
        gives("skill", 7);
        gives("sore", 3);
        gives("hard", 11);
        gives("bar", 0);
        gives("bars", 3);
        gives("away", 0);
        BaizeDoor x = Desk.told("piece 11 12;pupil 7 3 0;pianos 1;learns hard+bar*2+bars*4-away;");
        Desk.due("hard 11, bar 0, bars 2", x.pupil(0, 6), 19);
        BaizeDoor y = Desk.told("study 2 3;pupil 5 0 0;learns 20*(hard=0)+bar;");
        Desk.due("hard is 2", y.pupil(0, 6), 0);
        y.weeks(1);
        Desk.due("the piece is done", y.count(5), 1);
        Desk.due("hard is 0, bar is 2", y.pupil(0, 6), 20);
        BaizeDoor z = Desk.told("piece 90;pupil 0 0 0;learns away*3;");
        Desk.due("away 0", z.door(0, 30), 0);
        Desk.due("away 1", z.door(0, 1), 3);
        Desk.due("away 2", z.pupil(0, 6), 6);
        z.weeks(1);
        Desk.due("in week 1 one was away", z.pupil(0, 0), 3);
        Desk.due("away 1 again", z.pupil(0, 6), 3);
    }
}
