import java.lang.reflect.Constructor;
import java.lang.reflect.Field;
import java.lang.reflect.Method;
import java.lang.reflect.Modifier;
import java.util.Set;
import java.util.TreeSet;

/** The class has the members of the document's public face, and shows no others. */
final class FaceTest {
    public static void main(String[] args) {
        Class<?> face = HomeComputer.class;
        Check.same("the class's modifiers", face.getModifiers(), Modifier.PUBLIC | Modifier.FINAL);
        Set<String> shown = new TreeSet<>();
        Set<String> hidden = new TreeSet<>();
        for (Method method : face.getDeclaredMethods()) {
            (Modifier.isPrivate(method.getModifiers()) ? hidden : shown).add(method.toString());
        }
        Set<String> due = new TreeSet<>(Set.of(
                "public void HomeComputer.poke(int,int)",
                "public boolean HomeComputer.load(int,int,int)",
                "public int HomeComputer.peek(int)",
                "public boolean HomeComputer.set(int,int)",
                "public int HomeComputer.register(int)",
                "public boolean HomeComputer.key(int,int,boolean)",
                "public boolean HomeComputer.pulse(int)",
                "public boolean HomeComputer.tape(int)",
                "public int HomeComputer.step(int)"));
        due.addAll(Set.of(
                "public int HomeComputer.frame()",
                "public int HomeComputer.look(int)",
                "public int HomeComputer.stripe(int)"));
        Check.same("the methods", shown.toString(), due.toString());
        for (Constructor<?> constructor : face.getDeclaredConstructors()) {
            Check.same("a constructor", constructor.toString(), "public HomeComputer()");
        }
        for (Field field : face.getDeclaredFields()) {
            Check.yes(field + " is private", Modifier.isPrivate(field.getModifiers()));
        }
        Check.end();
    }
}
