import java.lang.reflect.Constructor;
import java.lang.reflect.Field;
import java.lang.reflect.Method;
import java.lang.reflect.Modifier;
import java.util.Set;
import java.util.TreeSet;

/** The public face of the document, and rule 1 of LANGUAGE.md: all of it, and nothing more. Small classes. */
public final class FaceTest {
    private static final String[] FACE = {
        "boolean coin()", "boolean start()", "boolean stick(int)", "float progress(int)", "float sound()",
        "float volume(int)", "int actor(int,int)", "int cell(int,int)", "int frames(int)", "int look(int)",
        "int point(int,int)", "void kick()",
    };

    public static void main(String[] args) {
        Check check = new Check();
        Class<?> board = MazeBoard.class;
        check.due("the class's modifiers", Modifier.toString(board.getModifiers()), "public final");
        check.due("the class's package", board.getPackageName(), "");
        Set<String> due = new TreeSet<>(Set.of(FACE));
        Set<String> found = new TreeSet<>();
        Set<String> names = new TreeSet<>();
        for (Method method : board.getDeclaredMethods()) {
            if (Modifier.isPublic(method.getModifiers())) {
                found.add(tell(method));
                names.add(method.getName());
            }
        }
        check.due("the public methods", found.toString(), due.toString());
        for (Method method : board.getDeclaredMethods()) {
            boolean isPublic = Modifier.isPublic(method.getModifiers());
            check.holds(method + " is public or private", isPublic || Modifier.isPrivate(method.getModifiers()));
            check.holds(method + " is no private one with a public name", isPublic || !names.contains(method.getName()));
        }
        for (Field field : board.getDeclaredFields()) {
            check.holds(field + " is private", Modifier.isPrivate(field.getModifiers()));
        }
        Constructor<?>[] constructors = board.getDeclaredConstructors();
        check.due("constructors", constructors.length, 1);
        check.due("the constructor", constructors[0].toString(), "public MazeBoard()");
        for (Class<?> inside : board.getDeclaredClasses()) {
            int modifiers = inside.getModifiers();
            check.holds(inside + " is hidden", !Modifier.isPublic(modifiers) && !Modifier.isProtected(modifiers));
            check.holds(inside + " is static", Modifier.isStatic(modifiers));
        }
        check.holds("the file has at most twelve classes", 1 + board.getDeclaredClasses().length <= 12);
        isSmall(check, board);
        for (Class<?> inside : board.getDeclaredClasses()) {
            isSmall(check, inside);
        }
        check.end();
    }

    /** Rules 5 and 11. */
    private static void isSmall(Check check, Class<?> some) {
        int fields = 0;
        for (Field field : some.getDeclaredFields()) {
            boolean isStatic = Modifier.isStatic(field.getModifiers());
            fields += isStatic ? 0 : 1;
            check.holds(field + " is final if it is static", !isStatic || Modifier.isFinal(field.getModifiers()));
        }
        check.holds(some + " has at most twenty fields", fields <= 20);
        for (Method method : some.getDeclaredMethods()) {
            check.holds(method + " has at most seven parameters", method.getParameterCount() <= 7);
        }
    }

    private static String tell(Method method) {
        StringBuilder text = new StringBuilder();
        text.append(method.getReturnType()).append(' ').append(method.getName()).append('(');
        for (Class<?> type : method.getParameterTypes()) {
            text.append(text.charAt(text.length() - 1) == '(' ? "" : ",").append(type);
        }
        return text.append(')').toString();
    }
}
