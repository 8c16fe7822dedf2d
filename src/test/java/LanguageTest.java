import java.io.IOException;
import java.lang.reflect.Constructor;
import java.lang.reflect.Field;
import java.lang.reflect.Method;
import java.lang.reflect.Modifier;
import java.nio.file.Files;
import java.nio.file.Path;
import java.util.Arrays;
import java.util.HashSet;
import java.util.Set;
import java.util.TreeSet;
import java.util.regex.Matcher;
import java.util.regex.Pattern;

/** What of LANGUAGE.md can be seen from outside: the face, the words that are not to be used, how much of each there is. */
public final class LanguageTest {
    private static final String FACE = "dread(int,int) eye(int,int) ofEye(int,int) change(int,int,int) wearer() ofWearer(int,int) "
        + "set(int,int,int) wear(int,int,int) become(int,int) as(int,int) feed(long,int) text(int) law(int,int,int,int) hours(int) "
        + "loose(int) then(int,int,int) out(int) eyeFor(int,int,int,int) watch(int,int) whose(int,int,int) lend(int) blind(int) "
        + "agree(int) dreads(int) swap(int) odds(int,int,int,int) seed(int) voice(int,int,int) trace(int) sheet(int,int,int) "
        + "put(int,int,int) move(int,int,int,int,int) bases(int) judge(int) image() restore() tell(int) check() count(int) told(int)";
    private static final String[] NEVER = {"throw", "throws", "try", "catch", "synchronized", "assert", "import", "package", "protected",
        "native", "volatile", "transient", "instanceof", "->", "::", "@", "Exact", "hashCode", "toString", "equals", "Thread", "System.in",
        "System.out", "currentTimeMillis", "nanoTime", "random", "var "};

    public static void main(String[] args) throws IOException {
        face();
        classesInside();
        words(Files.readString(Path.of("src/main/java/GlassEyes.java")));
        Due.end("LanguageTest");
    }

    private static void face() {
        Set<String> found = new TreeSet<>();
        Set<String> names = new HashSet<>();
        for (Method m : GlassEyes.class.getDeclaredMethods()) {
            if (Modifier.isPublic(m.getModifiers())) {
                Class<?>[] in = m.getParameterTypes();
                String[] types = Arrays.stream(in).map(Class::getName).toArray(String[]::new);
                found.add(m.getName() + "(" + String.join(",", types) + ")");
                names.add(m.getName());
                Due.due(m.getName() + " answers an int", m.getReturnType() == int.class ? 1 : 0, 1);
                Due.due(m.getName() + " is of the object", Modifier.isStatic(m.getModifiers()) ? 1 : 0, 0);
            }
        }
        Due.same("the face", found.toString(), new TreeSet<>(Arrays.asList(FACE.split(" "))).toString());
        for (Method m : GlassEyes.class.getDeclaredMethods()) {
            if (!Modifier.isPublic(m.getModifiers())) {
                Due.due(m.getName() + " is private", Modifier.isPrivate(m.getModifiers()) ? 1 : 0, 1);
            }
        }
        for (Class<?> c : GlassEyes.class.getDeclaredClasses()) {
            for (Method m : c.getDeclaredMethods()) {
                Due.due(m.getName() + " bears no name of the face", names.contains(m.getName()) ? 1 : 0, 0);
            }
        }
        for (Method m : GlassEyes.class.getDeclaredMethods()) {
            boolean hidden = !Modifier.isPublic(m.getModifiers());
            Due.due(m.getName() + " bears no name of the face", hidden && names.contains(m.getName()) ? 1 : 0, 0);
        }
        Constructor<?>[] made = GlassEyes.class.getDeclaredConstructors();
        Due.due("constructors", made.length, 1);
        Due.due("the constructor is public", Modifier.isPublic(made[0].getModifiers()) ? 1 : 0, 1);
        Due.due("its parameters", made[0].getParameterCount(), 0);
        Due.due("the class is public and final", GlassEyes.class.getModifiers() & (Modifier.PUBLIC | Modifier.FINAL), Modifier.PUBLIC | Modifier.FINAL);
    }

    private static void classesInside() {
        Class<?>[] inside = GlassEyes.class.getDeclaredClasses();
        Due.due("at most twelve classes", inside.length + 1 <= 12 ? 1 : 0, 1);
        limits(GlassEyes.class);
        for (Class<?> c : inside) {
            int m = c.getModifiers();
            Due.due(c.getName() + " is static", Modifier.isStatic(m) ? 1 : 0, 1);
            Due.due(c.getName() + " is not public or protected", m & (Modifier.PUBLIC | Modifier.PROTECTED), 0);
            limits(c);
        }
        for (Field f : GlassEyes.class.getDeclaredFields()) {
            Due.due(f.getName() + " is private", Modifier.isPrivate(f.getModifiers()) ? 1 : 0, 1);
        }
    }

    private static void limits(Class<?> c) {
        int fields = 0;
        for (Field f : c.getDeclaredFields()) {
            if (Modifier.isStatic(f.getModifiers())) {
                Due.due(f.getName() + " is final", Modifier.isFinal(f.getModifiers()) ? 1 : 0, 1);
            } else {
                fields++;
            }
        }
        Due.due(c.getName() + " has at most 20 fields", fields <= 20 ? 1 : 0, 1);
        for (Method m : c.getDeclaredMethods()) {
            Due.due(m.getName() + " has at most 7 parameters", m.getParameterCount() <= 7 ? 1 : 0, 1);
        }
    }

    private static void words(String source) {
        String code = source.replaceAll("(?s)/\\*.*?\\*/", " ").replaceAll("//[^\n]*", " ").replaceAll("\"[^\"\n]*\"", "\"\"");
        for (String word : NEVER) {
            boolean letters = Character.isLetter(word.charAt(0)) && !word.equals("Exact") && !word.endsWith(" ");
            Pattern p = Pattern.compile(letters ? "\\b" + Pattern.quote(word) + "\\b" : Pattern.quote(word));
            Due.due("'" + word + "' stands there", p.matcher(code).find() ? 1 : 0, 0);
        }
        Matcher joined = Pattern.compile("\"\"\\s*\\+|\\+\\s*\"\"").matcher(code);
        Due.due("texts joined by +", joined.find() ? 1 : 0, 0);
        for (int i = 0; i < source.length(); i++) {
            char sign = source.charAt(i);
            if (sign > 126) {
                Due.due("sign " + (int) sign + " at " + i, 1, 0);
            }
        }
        int depth = 0;
        int began = 0;
        String[] lines = code.split("\n");
        for (int i = 0; i < lines.length; i++) {
            if (lines[i].matches(" {4,8}[a-zA-Z].*\\) \\{")) {
                began = i;
            }
            depth += lines[i].replaceAll("[^{]", "").length() - lines[i].replaceAll("[^}]", "").length();
            if (lines[i].matches(" {4,8}\\}")) {
                Due.due("a method of more than sixty lines ends at line " + (i + 1), lines[began].contains("class ") || i - began <= 60 ? 0 : 1, 0);
            }
        }
        Due.due("brackets", depth, 0);
    }
}
