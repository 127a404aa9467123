import java.io.IOException;
import java.lang.reflect.Constructor;
import java.lang.reflect.Field;
import java.lang.reflect.Method;
import java.lang.reflect.Modifier;
import java.nio.file.Files;
import java.nio.file.Path;
import java.util.Arrays;
import java.util.Set;
import java.util.TreeSet;

/** The public face of the class, and the rules of the language that show in its members and words. */
public final class FaceTest {
    private static final String[] FACE = {
        "boolean wire(int)", "int tag(int,long,int)", "long name(int)", "boolean isName(long)",
        "int tell(int,int)", "boolean act(int,int)", "int group(long,long)", "int pass()",
        "int fork(int)", "boolean verify(long)", "int ask(long,int)", "int alone()",
        "void descend()", "int step()", "int nodes()", "int begin()", "int split()",
        "void frames()", "int frame(int)", "int heard(int)", "int found(int)", "int cost(int)",
        "int count(int)", "boolean image(int)", "boolean again(int)",
    };

    private static final String[] FORBIDDEN = {
        "import", "throw", "throws", "try", "catch", "finally", "synchronized", "assert",
        "protected", "package", "new Object", "->", "::", "System.out", "hashCode", "toString",
    };

    private FaceTest() {
    }

    public static void main(String[] args) throws IOException {
        classAndConstant();
        methods();
        insideClasses();
        words();
        Check.end();
    }

    private static void classAndConstant() {
        int modifiers = RollCall.class.getModifiers();
        Check.due("public", Modifier.isPublic(modifiers), true);
        Check.due("final", Modifier.isFinal(modifiers), true);
        Check.due("NONE", RollCall.NONE, -1);
        for (Field field : RollCall.class.getDeclaredFields()) {
            boolean isFace = field.getName().equals("NONE");
            Check.due(field + " is public", Modifier.isPublic(field.getModifiers()), isFace);
            Check.due(field + " is private", Modifier.isPrivate(field.getModifiers()), !isFace);
            boolean isState = Modifier.isStatic(field.getModifiers())
                    && !Modifier.isFinal(field.getModifiers());
            Check.due(field + " is static state", isState, false);
        }
        Constructor<?>[] constructors = RollCall.class.getDeclaredConstructors();
        Check.due("constructors", constructors.length, 1);
        Check.due("public constructor", Modifier.isPublic(constructors[0].getModifiers()), true);
        Check.due("its parameters", constructors[0].getParameterCount(), 0);
    }

    private static String signature(Method method) {
        StringBuilder b = new StringBuilder();
        b.append(method.getReturnType().getName()).append(' ').append(method.getName()).append('(');
        Class<?>[] types = method.getParameterTypes();
        for (int i = 0; i < types.length; i++) {
            b.append(i == 0 ? "" : ",").append(types[i].getName());
        }
        return b.append(')').toString();
    }

    private static void methods() {
        Set<String> wanted = new TreeSet<>(Arrays.asList(FACE));
        Set<String> names = new TreeSet<>();
        for (String one : FACE) {
            names.add(one.substring(one.indexOf(' ') + 1, one.indexOf('(')));
        }
        for (Method method : RollCall.class.getDeclaredMethods()) {
            if (Modifier.isPublic(method.getModifiers())) {
                Check.due("on the face: " + method, wanted.remove(signature(method)), true);
            } else {
                Check.due("private: " + method, Modifier.isPrivate(method.getModifiers()), true);
                Check.due("a name of its own: " + method, names.contains(method.getName()), false);
            }
        }
        Check.due("missing: " + wanted, wanted.size(), 0);
    }

    private static void insideClasses() {
        Class<?>[] inside = RollCall.class.getDeclaredClasses();
        Check.due("at most some twelve classes", inside.length <= 11, true);
        for (Class<?> one : inside) {
            int modifiers = one.getModifiers();
            Check.due(one + " is static", Modifier.isStatic(modifiers), true);
            Check.due(one + " is public", Modifier.isPublic(modifiers), false);
            Check.due(one + " has some twenty fields", one.getDeclaredFields().length <= 20, true);
        }
    }

    private static void words() throws IOException {
        String text = Files.readString(Path.of("src/main/java/RollCall.java"));
        String code = text.replaceAll("(?s)/\\*.*?\\*/", " ").replaceAll("//[^\n]*", " ");
        String spaced = " " + code.replaceAll("\\s+", " ") + " ";
        for (String word : FORBIDDEN) {
            boolean isWord = Character.isLetter(word.charAt(0));
            boolean stands = isWord
                    ? spaced.matches("(?s).*\\b" + word.replace(".", "\\.") + "\\b.*")
                    : spaced.contains(word);
            Check.due("the class has the word " + word, stands, false);
        }
    }
}
