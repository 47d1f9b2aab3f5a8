import java.lang.reflect.Constructor;
import java.lang.reflect.Field;
import java.lang.reflect.Method;
import java.lang.reflect.Modifier;
import java.util.Set;
import java.util.TreeSet;

/** The class has the document's face and no other member that can be seen from outside. */
public final class FaceTests {
    private static final Set<String> FACE = Set.of(
        "int feed(char)", "int readTracks(int)", "int readImplicit(int)",
        "int definition(int,int,int)", "int set(int,int,int)", "int setFlow(int,boolean)",
        "int addItem(int,int,int,int)", "int place(int,int,int,int)", "int align(int,int,int)",
        "int contribute(int,int,boolean,int)", "int removeItem(int)", "int exchange(int,int)",
        "int items()", "int tracks(int)", "int startOf(int,int)", "int itemIn(int,int)",
        "int cells(int)", "int size(int,int,int)", "boolean isCollapsed(int,int)",
        "int position(int,int)", "int total(int,int)", "int free(int)", "int box(int,int,int)",
        "int unmet(int,boolean)", "int itemUnder(int,int)", "int save(int)", "int restore(int)",
        "int undo()");

    public static void main(String[] args) {
        Set<String> seen = new TreeSet<>();
        Set<String> names = new TreeSet<>();
        for (Method method : GridEngine.class.getDeclaredMethods()) {
            if (!Modifier.isPrivate(method.getModifiers())) {
                seen.add(written(method));
                Check.due(method.getName() + " is public", true,
                    Modifier.isPublic(method.getModifiers()));
                names.add(method.getName());
            }
        }
        Check.due("the methods are " + seen, true, seen.equals(FACE));
        for (Method method : GridEngine.class.getDeclaredMethods()) {
            if (Modifier.isPrivate(method.getModifiers())) {
                Check.due("the name " + method.getName(), false, names.contains(method.getName()));
            }
        }
        for (Field field : GridEngine.class.getDeclaredFields()) {
            Check.due("the field " + field.getName() + " is private",
                !field.getName().equals("NONE"), Modifier.isPrivate(field.getModifiers()));
        }
        Constructor<?>[] constructors = GridEngine.class.getDeclaredConstructors();
        Check.due("constructors", 1, () -> constructors.length);
        Check.due("public constructor", true, Modifier.isPublic(constructors[0].getModifiers()));
        Check.due("final class", true, Modifier.isFinal(GridEngine.class.getModifiers()));
        Check.finish("FaceTests");
    }

    private static String written(Method method) {
        StringBuilder text = new StringBuilder();
        text.append(method.getReturnType()).append(' ').append(method.getName()).append('(');
        for (Class<?> type : method.getParameterTypes()) {
            text.append(text.charAt(text.length() - 1) == '(' ? "" : ",").append(type);
        }
        return text.append(')').toString();
    }
}
