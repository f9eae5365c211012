import java.io.IOException;
import java.lang.reflect.Constructor;
import java.lang.reflect.Field;
import java.lang.reflect.Method;
import java.lang.reflect.Modifier;
import java.nio.file.Files;
import java.nio.file.Path;
import java.util.ArrayList;
import java.util.Arrays;
import java.util.Collections;
import java.util.HashSet;
import java.util.List;
import java.util.Set;
import java.util.regex.Matcher;
import java.util.regex.Pattern;

/** The face of the class, and those rules of LANGUAGE.md that can be seen from the file and its members. */
public final class LanguageTest {
    private static final Path FILE = Path.of("src/main/java/DealtByOpposite.java");
    private static final String[] FACE = {"int town(int)", "int person(int,int)", "int fond(int,int)", "int comes(int)",
        "int feels(int,int,int)", "int limit(int)", "int sees(int,int)", "int turnsFor(int,int)", "int days(int)",
        "int fit(int)", "int told(int)", "int rings()", "int nobody()", "int swaps(int)", "int lasts(int,int)",
        "int soonest(int,int)", "int hide(int)", "int keeps(int,int)", "int enough(int)", "int loved(int)",
        "int warmest()", "long orders(int)", "long drawn(int,int,int)", "long await(int,int,int)", "int daysFor(int)",
        "int ask(int)", "int game(int,int)", "int blushes(int,int,int)", "int forged(int,int)", "int judge(int,int)",
        "int months(int,int,int)", "int image()", "int restore()", "int count(int)", "int keep(int,int,int,int)",
        "int row(int,int,int)", "int put(int,int,int)",
        "long element(int,int) throws IllegalArgumentException,IllegalStateException",
        "int copy(int,int,int,int,int)", "int cost(int)", "int toss(int)"};
    /** Words that the rules leave out, as they would stand in the code. */
    private static final String[] NEVER = {"import\\b", "package\\b", "synchronized\\b", "assert\\b", "finally\\b",
        "->", "::", "\\bexit\\b", "Exact\\b", "getMessage", "\\bNaN\\b", "\\bSystem\\.(?!arraycopy)",
        "catch \\((Exception|Throwable|RuntimeException|ArithmeticException|IndexOutOfBoundsException"
            + "|ArrayIndexOutOfBoundsException|NullPointerException|ClassCastException|NegativeArraySizeException"
            + "|ArrayStoreException)\\b", "\\bRandom\\b", "\\bThread\\b", "@"};

    private LanguageTest() {
    }

    public static void main(String[] args) throws IOException {
        face();
        fields(DealtByOpposite.class);
        for (Class<?> inside : DealtByOpposite.class.getDeclaredClasses()) {
            classInside(inside);
            fields(inside);
        }
        Check.holds("twelve classes at most", DealtByOpposite.class.getDeclaredClasses().length + 1 <= 12);
        code(Files.readString(FILE));
        Check.end("LanguageTest");
    }

    private static void face() {
        Class<?> face = DealtByOpposite.class;
        Check.holds("public and final", Modifier.isPublic(face.getModifiers()) && Modifier.isFinal(face.getModifiers()));
        Constructor<?>[] constructors = face.getDeclaredConstructors();
        Check.holds("one public constructor without arguments", constructors.length == 1
            && Modifier.isPublic(constructors[0].getModifiers()) && constructors[0].getParameterCount() == 0);
        List<String> seen = new ArrayList<>();
        Set<String> names = new HashSet<>();
        for (Method method : face.getDeclaredMethods()) {
            if (Modifier.isPublic(method.getModifiers())) {
                seen.add(signature(method));
                names.add(method.getName());
            }
        }
        List<String> wanted = new ArrayList<>(Arrays.asList(FACE));
        Collections.sort(seen);
        Collections.sort(wanted);
        Check.holds("the face is " + seen, seen.equals(wanted));
        for (Method method : face.getDeclaredMethods()) {
            int modifiers = method.getModifiers();
            Check.holds(method + " is public or private", Modifier.isPublic(modifiers) || Modifier.isPrivate(modifiers));
            Check.holds(method + " bears no name of the face",
                Modifier.isPublic(modifiers) || !names.contains(method.getName()));
            Check.holds(method + " takes seven at most", method.getParameterCount() <= 7);
        }
    }

    private static String signature(Method method) {
        StringBuilder text = new StringBuilder(method.getReturnType() + " " + method.getName() + "(");
        for (Class<?> parameter : method.getParameterTypes()) {
            text.append(text.charAt(text.length() - 1) == '(' ? "" : ",").append(parameter);
        }
        text.append(")");
        List<String> thrown = new ArrayList<>();
        for (Class<?> exception : method.getExceptionTypes()) {
            thrown.add(exception.getSimpleName());
        }
        return text + (thrown.isEmpty() ? "" : " throws " + String.join(",", thrown));
    }

    private static void classInside(Class<?> inside) {
        Check.holds(inside + " is static", Modifier.isStatic(inside.getModifiers()));
        Check.holds(inside + " is no member of the face",
            !Modifier.isPublic(inside.getModifiers()) && !Modifier.isProtected(inside.getModifiers()));
        for (Method method : inside.getDeclaredMethods()) {
            Check.holds(method + " bears no name that all objects have",
                !Set.of("equals", "hashCode", "toString").contains(method.getName()));
        }
    }

    private static void fields(Class<?> owner) {
        int own = 0;
        for (Field field : owner.getDeclaredFields()) {
            int modifiers = field.getModifiers();
            if (Modifier.isStatic(modifiers)) {
                Check.holds(field + " is a constant", Modifier.isFinal(modifiers) && field.getType().isPrimitive());
            } else {
                own++;
                Check.holds(field + " is hidden", owner != DealtByOpposite.class || Modifier.isPrivate(modifiers));
            }
        }
        Check.holds(owner + " has twenty fields at most", own <= 20);
    }

    private static void code(String file) {
        for (char sign : file.toCharArray()) {
            Check.holds("signs 1 to 127 alone", sign > 0 && sign < 128);
        }
        String bare = file.replaceAll("(?s)/\\*.*?\\*/", "").replaceAll("//[^\n]*", "").replaceAll("\"[^\"\n]*\"", "\"\"");
        for (String word : NEVER) {
            Matcher found = Pattern.compile(word).matcher(bare);
            Check.holds("no " + word + " in the code", !found.find());
        }
        for (String line : bare.split("\n")) {
            Check.holds("an exception is thrown new, by a written text: " + line, !line.contains("throw ")
                || line.matches("\\s*throw new (IllegalStateException|IllegalArgumentException"
                    + "|UnsupportedOperationException)\\(\"\"\\);"));
        }
        lengths(bare);
    }

    /** Methods stand at a depth of four spaces, or eight in a class inside. */
    private static void lengths(String bare) {
        int start = 0;
        String indent = "";
        String[] lines = bare.split("\n");
        for (int i = 0; i < lines.length; i++) {
            Matcher head = Pattern.compile("^( {4}| {8})[^ ].*\\) (throws .*)?\\{$").matcher(lines[i]);
            boolean statement = lines[i].matches(" {8}(if|for|switch|\\} ).*");
            if (head.matches() && !statement && !lines[i].contains(" class ")) {
                start = i;
                indent = head.group(1);
            } else if (!indent.isEmpty() && lines[i].equals(indent + "}")) {
                Check.holds("sixty lines at most: " + lines[start].trim(), i - start < 60);
                indent = "";
            }
        }
    }
}
