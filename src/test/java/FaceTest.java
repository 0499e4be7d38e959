import java.lang.reflect.Field;
import java.lang.reflect.Member;
import java.lang.reflect.Method;
import java.lang.reflect.Modifier;
import java.util.ArrayList;
import java.util.Arrays;
import java.util.List;
import java.util.Set;
import java.util.TreeSet;

/** The class has the document's face, as LANGUAGE.md's rule 1 asks, and no other member that is not private. */
public final class FaceTest {
    private static final Set<String> FACE = new TreeSet<>(Arrays.asList(
            "public static final int WordUnit.BAD",
            "public static final int WordUnit.DONE",
            "public WordUnit()",
            "public int WordUnit.poke(int,int,int,int,int,int)",
            "public int WordUnit.word(int)",
            "public int WordUnit.put(int,int)",
            "public int WordUnit.get(int)",
            "public int WordUnit.go(int)",
            "public int WordUnit.step()",
            "public int WordUnit.run(int)",
            "public int WordUnit.doWord(int)",
            "public int WordUnit.told(int)",
            "public int WordUnit.field(int,int)",
            "public int WordUnit.reckon(int,int,int)"));

    public static void main(String[] args) {
        theClass();
        openMembers();
        constants();
        namesOfPrivateMethods();
        staticFields();
        classesInside();
        Due.end();
    }

    private static void theClass() {
        Due.sentence("The public face: public final class WordUnit");
        Due.dueTrue("the class, its class above it and its interfaces are the document's",
                WordUnit.class.toGenericString().equals("public final class WordUnit")
                && WordUnit.class.getSuperclass() == Object.class
                && WordUnit.class.getInterfaces().length == 0);
    }

    private static void openMembers() {
        Due.sentence("The public face: its constants, constructor and methods; rule 1: no other open member");
        Set<String> open = new TreeSet<>();
        for (Member member : members()) {
            if (!Modifier.isPrivate(member.getModifiers())) {
                open.add(member.toString());
            }
        }
        for (String due : FACE) {
            Due.dueTrue("there is " + due, open.contains(due));
        }
        for (String found : open) {
            Due.dueTrue("of the document's face: " + found, FACE.contains(found));
        }
    }

    private static void constants() {
        Due.sentence("The public face: BAD = -1, DONE = -1");
        Due.due("BAD", -1, WordUnit.BAD);
        Due.due("DONE", -1, WordUnit.DONE);
    }

    private static void namesOfPrivateMethods() {
        Due.sentence("LANGUAGE.md, rule 1: No private method bears the name of a public one.");
        Set<String> publicNames = new TreeSet<>();
        for (Method method : WordUnit.class.getMethods()) {
            publicNames.add(method.getName());
        }
        for (Method method : WordUnit.class.getDeclaredMethods()) {
            boolean isPrivate = Modifier.isPrivate(method.getModifiers());
            Due.dueTrue("the name of " + method, !isPrivate || !publicNames.contains(method.getName()));
        }
    }

    private static void staticFields() {
        Due.sentence("LANGUAGE.md, rule 5: Static fields are final");
        for (Field field : WordUnit.class.getDeclaredFields()) {
            int is = field.getModifiers();
            Due.dueTrue(field.toString(), !Modifier.isStatic(is) || Modifier.isFinal(is));
        }
    }

    private static void classesInside() {
        Due.sentence("LANGUAGE.md, rule 1: classes inside are private or package-visible and static");
        int wrong = 0;
        for (Class<?> inside : WordUnit.class.getDeclaredClasses()) {
            int is = inside.getModifiers();
            wrong += Modifier.isPublic(is) || Modifier.isProtected(is) || !Modifier.isStatic(is) ? 1 : 0;
        }
        Due.due("classes inside that are not so", 0, wrong);
    }

    private static List<Member> members() {
        List<Member> members = new ArrayList<>();
        members.addAll(Arrays.asList(WordUnit.class.getDeclaredFields()));
        members.addAll(Arrays.asList(WordUnit.class.getDeclaredConstructors()));
        members.addAll(Arrays.asList(WordUnit.class.getDeclaredMethods()));
        return members;
    }
}
