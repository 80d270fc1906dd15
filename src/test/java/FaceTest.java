import java.lang.reflect.Constructor;
import java.lang.reflect.Field;
import java.lang.reflect.Method;
import java.lang.reflect.Modifier;
import java.nio.file.Files;
import java.nio.file.Path;
import java.util.Set;
import java.util.TreeSet;
import java.util.regex.Matcher;
import java.util.regex.Pattern;

/** The public face, and promise 1: a new object. */
public final class FaceTest {
    private static final String FACE = "feed/5 school/1 fault/0 count/1 piece/2 bar/2 pupil/2 weeks/1 door/2 gloves/2 "
        + "begin/2 pianos/1 undo/0 then/3 done/1 heard/1 best/1 stuck/0 free/1 nobody/1 through/1 toBeDone/2 fits/2 "
        + "repertoire/1 choice/1 hardest/0 concert/2 duet/0 next/1 rush/2 sorest/1 toGlove/1 full/1 empty/1 common/2 "
        + "work/1 mates/1 see/3 been/1 listen/1 forget/0 game/3 years/3 image/0 restore/0";

    private static final Path DOCUMENT = Path.of("../shared/DOC.md");
    private static final Pattern HEAD = Pattern.compile("    public (\\w+) (\\w+)\\((.*?)\\)(?: throws (.*?))?;");

    public static void main(String[] args) throws Exception {
        Desk.within(120);
        face();
        if (Files.isReadable(DOCUMENT)) heads();
        newObject();
        Desk.end();
    }

    private static void face() {
        Set<String> due = new TreeSet<>(Set.of(FACE.split(" ")));
        Set<String> got = new TreeSet<>();
        for (Method m : BaizeDoor.class.getDeclaredMethods()) {
            if (Modifier.isPublic(m.getModifiers())) got.add(m.getName() + "/" + m.getParameterCount());
            else Desk.due("private " + m, Modifier.isPrivate(m.getModifiers()) ? 1 : 0, 1);
        }
        Desk.due("the face " + got, got.equals(due) ? 1 : 0, 1);
        for (Field f : BaizeDoor.class.getDeclaredFields()) {
            boolean isNone = f.getName().equals("NONE");
            Desk.due("field " + f, Modifier.isPrivate(f.getModifiers()) == !isNone ? 1 : 0, 1);
        }
        Desk.due("constructors", BaizeDoor.class.getConstructors().length, 1);
        for (Constructor<?> c : BaizeDoor.class.getDeclaredConstructors()) Desk.due("" + c, c.getParameterCount(), 0);
        Desk.due("public and final", BaizeDoor.class.getModifiers(), Modifier.PUBLIC | Modifier.FINAL);
        Desk.due("NONE", BaizeDoor.NONE, -1);
    }

    /** Every method's types and exceptions, as the document's face has them. */
    private static void heads() throws Exception {
        Set<String> due = new TreeSet<>();
        Matcher m = HEAD.matcher(Files.readString(DOCUMENT));
        while (m.find()) {
            String thrown = m.group(4) == null ? "" : m.group(4);
            due.add(m.group(1) + " " + m.group(2) + "(" + m.group(3).replaceAll(" \\w+(?=,|$)", "") + ") " + thrown);
        }
        Set<String> got = new TreeSet<>();
        for (Method method : BaizeDoor.class.getDeclaredMethods()) {
            if (!Modifier.isPublic(method.getModifiers())) continue;
            got.add(method.getReturnType() + " " + method.getName() + "(" + names(method.getParameterTypes()) + ") "
                + names(method.getExceptionTypes()));
        }
        Desk.due("the document's heads", due.size(), FACE.split(" ").length);
        Desk.due("the heads", String.join("\n", got), String.join("\n", due));
    }

    private static String names(Class<?>[] types) {
        StringBuilder s = new StringBuilder();
        for (Class<?> type : types) s.append(s.length() == 0 ? "" : ", ").append(type.getSimpleName());
        return s.toString();
    }

    private static void newObject() {
        BaizeDoor x = new BaizeDoor();
        int[] due = {0, 0, 2, 0, 0, 0, 0, 0, 0, 0, 0, 0, 0};
        for (int i = 0; i < due.length; i++) Desk.due("new: count(" + i + ")", x.count(i), due[i]);
        Desk.due("new: fault()", x.fault(), -1);
        Desk.absent("new: pupil(0, 0)", () -> x.pupil(0, 0));
        Desk.absent("new: piece(0, 0)", () -> x.piece(0, 0));
        Desk.due("new: undo()", x.undo(), -1);
        Desk.due("new: restore()", x.restore() ? 1 : 0, 0);
        Desk.due("new: best(60)", x.best(60), -1);
        Desk.due("new: sorest(0)", x.sorest(0), -1);
        Desk.due("new: duet()", x.duet(), -1);
        Desk.due("new: hardest()", x.hardest(), -1);
        Desk.due("new: nobody(30)", x.nobody(30), 0);
        Desk.due("new: empty(30)", x.empty(30), 30);
        Desk.due("new: choice(-1)", x.choice(-1), 0);
        Desk.due("new: rush(60, 0)", x.rush(60, 0), 1);
        Desk.due("new: been(0)", x.been(0), 0);
        Desk.due("new: been(1)", x.been(1), -1);
        Desk.due("new: been(2)", x.been(2), 1);
        Desk.due("new: listen(0)", x.listen(0), -1);
        Desk.due("new: years(1, 60, 2)", x.years(1, 60, 2), 0);
        Desk.due("new: weeks(20)", x.weeks(20), 20);
    }
}
