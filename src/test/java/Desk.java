import java.util.NoSuchElementException;

/** What the tests share: telling a school, and saying what is not as due. */
final class Desk {
    private static int wrong;

    private Desk() {
    }

    interface Call {
        int answer();
    }

    static void due(String call, long got, long want) {
        if (got != want) {
            wrong++;
            System.out.println(call + " answered " + got + ", due is " + want);
        }
    }

    /** The call must throw NoSuchElementException. */
    static void absent(String call, Call c) {
        thrown(call, c, NoSuchElementException.class);
    }

    /** The call must throw IllegalArgumentException. */
    static void illegal(String call, Call c) {
        thrown(call, c, IllegalArgumentException.class);
    }

    private static void thrown(String call, Call c, Class<?> want) {
        String got;
        try {
            got = "" + c.answer();
        } catch (RuntimeException e) {
            if (e.getClass() == want) return;
            got = "throws " + e;
        }
        wrong++;
        System.out.println(call + " answered " + got + ", due is throws " + want.getName());
    }

    static void feed(BaizeDoor door, String text) {
        for (int from = 0; from < text.length(); from += 20) {
            int[] five = new int[5];
            for (int i = 0; i < 20; i++) {
                int b = from + i < text.length() ? text.charAt(from + i) : ' ';
                five[i / 4] = five[i / 4] << 8 | b;
            }
            door.feed(five[0], five[1], five[2], five[3], five[4]);
        }
    }

    static int tell(BaizeDoor door, String text) {
        feed(door, text);
        return door.school(text.length());
    }

    static BaizeDoor told(String text) {
        BaizeDoor door = new BaizeDoor();
        due("school of " + text, tell(door, text), 0);
        return door;
    }

    static void end() {
        System.out.println(wrong == 0 ? "all answers are as due" : wrong + " answers are not as due");
        if (wrong != 0) System.exit(1);
    }
}
