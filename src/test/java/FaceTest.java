import java.lang.reflect.Constructor;
import java.lang.reflect.Field;
import java.lang.reflect.Member;
import java.lang.reflect.Method;
import java.lang.reflect.Modifier;
import java.util.Arrays;
import java.util.Set;
import java.util.TreeSet;

/** The class has the document's face and no other member that is not private. */
public final class FaceTest {
    private static final Set<String> FACE = new TreeSet<>(Arrays.asList(
            "BAD int", "DONE int", "WordUnit []",
            "poke [int, int, int, int, int, int] int", "word [int] int", "put [int, int] int",
            "get [int] int", "go [int] int", "step [] int", "run [int] int", "doWord [int] int",
            "told [int] int", "field [int, int] int", "reckon [int, int, int] int"));

    public static void main(String[] args) {
        Set<String> open = new TreeSet<>();
        for (Field field : WordUnit.class.getDeclaredFields()) {
            addIfOpen(open, field, field.getName() + " " + field.getType());
            Due.dueTrue("static field final: " + field.getName(),
                    !Modifier.isStatic(field.getModifiers()) || Modifier.isFinal(field.getModifiers()));
        }
        for (Constructor<?> made : WordUnit.class.getDeclaredConstructors()) {
            addIfOpen(open, made, "WordUnit " + Arrays.toString(made.getParameterTypes()));
        }
        for (Method method : WordUnit.class.getDeclaredMethods()) {
            addIfOpen(open, method, method.getName() + " " + Arrays.toString(method.getParameterTypes())
                    + " " + method.getReturnType());
        }
        System.out.println("face: " + open);
        Due.dueTrue("the face is the document's", open.equals(FACE));
        Due.dueTrue("the class is public and final", Modifier.isPublic(WordUnit.class.getModifiers())
                && Modifier.isFinal(WordUnit.class.getModifiers()));
        Due.due("BAD", -1, WordUnit.BAD);
        Due.due("DONE", -1, WordUnit.DONE);
        Due.end();
    }

    private static void addIfOpen(Set<String> open, Member member, String text) {
        if (!Modifier.isPrivate(member.getModifiers())) {
            open.add(text);
            Due.dueTrue("public: " + text, Modifier.isPublic(member.getModifiers()));
        }
    }
}
