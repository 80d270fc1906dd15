import java.util.NoSuchElementException;

/** What the tests share: telling a school, and saying what is not as due. */
final class Desk {
    private static int wrong;
    private static int checks;
    private static String about = "";

    private Desk() {
    }

    interface Call {
        int answer();
    }

    /** What the next checks are about, ahead of each line that says what is wrong. */
    static void about(String words) {
        about = words.isEmpty() ? "" : "[" + words + "] ";
    }

    static int checks() {
        return checks;
    }

    private static void wrong(String call, String got, String want) {
        wrong++;
        System.out.println(about + call + " answered " + got + ", due is " + want);
    }

    static void due(String call, long got, long want) {
        checks++;
        if (got != want) wrong(call, "" + got, "" + want);
    }

    static void due(String call, String got, String want) {
        checks++;
        if (!got.equals(want)) wrong(call, got, want);
    }

    static void holds(String what, boolean holds) {
        due(what, holds ? 1 : 0, 1);
    }

    /** The call must throw NoSuchElementException. */
    static void absent(String call, Call c) {
        thrown(call, c, NoSuchElementException.class);
    }

    /** The call must throw IllegalArgumentException. */
    static void illegal(String call, Call c) {
        thrown(call, c, IllegalArgumentException.class);
    }

    private static void thrown(String call, Call c, Class<?> want) {
        checks++;
        String got;
        try {
            got = "" + c.answer();
        } catch (RuntimeException e) {
            if (e.getClass() == want) return;
            got = "throws " + e;
        }
        wrong(call, got, "throws " + want.getName());
    }

    static void feed(BaizeDoor door, String text) {
        for (int from = 0; from < text.length(); from += 20) {
            int[] five = new int[5];
            for (int i = 0; i < 20; i++) {
                int b = from + i < text.length() ? text.charAt(from + i) : ' ';
                five[i / 4] = five[i / 4] << 8 | b;
            }
            door.feed(five[0], five[1], five[2], five[3], five[4]);
        }
    }

    static int tell(BaizeDoor door, String text) {
        feed(door, text);
        return door.school(text.length());
    }

    static BaizeDoor told(String text) {
        BaizeDoor door = new BaizeDoor();
        due("school of " + text, tell(door, text), 0);
        return door;
    }

    /** A new object is told the text: it must have this fault (0: none) at this place (-1: none). */
    static void fault(String text, int due, int place) {
        BaizeDoor door = new BaizeDoor();
        due("school of '" + text + "'", tell(door, text), due);
        due("fault() of '" + text + "'", door.fault(), place);
        due("count(10) of '" + text + "'", door.count(10), due == 0 ? 0 : 1);
        due("count(9) of '" + text + "'", door.count(9), 0);
        if (due != 0) due("pieces and pupils of '" + text + "'", door.count(0) + door.count(1), 0);
    }

    static void fine(String text) {
        fault(text, 0, -1);
    }

    /** All that can be seen without a change, but for STATUS and the tape. */
    static String view(BaizeDoor door) {
        StringBuilder s = new StringBuilder();
        for (int i = 0; i <= 8; i++) s.append(door.count(i)).append(' ');
        for (int piece = 0; piece < door.count(0); piece++) {
            s.append("piece");
            for (int i = 0; i < 3; i++) s.append(' ').append(door.piece(piece, i));
            for (int i = 0; i < door.piece(piece, 0); i++) s.append(' ').append(door.bar(piece, i));
        }
        for (int p = 0; p < door.count(1); p++) {
            s.append("; pupil");
            for (int i = 0; i < 7; i++) s.append(' ').append(door.pupil(p, i));
        }
        for (int i = 0; i < 3; i++) s.append("; been ").append(door.been(i));
        return s.toString();
    }

    /** A call that doesn't end must fail the test, not hold it up. */
    static void within(int seconds) {
        Thread watch = new Thread(() -> {
            try {
                Thread.sleep(1000L * seconds);
            } catch (InterruptedException e) {
                return;
            }
            System.out.println(about + "some call doesn't end");
            Runtime.getRuntime().halt(1);
        });
        watch.setDaemon(true);
        watch.start();
    }

    static void end() {
        System.out.println(wrong == 0 ? "all answers are as due" : wrong + " answers are not as due");
        if (wrong != 0) System.exit(1);
    }
}
