import java.lang.reflect.Constructor;
import java.lang.reflect.Field;
import java.lang.reflect.Method;
import java.lang.reflect.Modifier;
import java.nio.file.Files;
import java.nio.file.Path;
import java.util.List;
import java.util.Set;
import java.util.TreeSet;
import java.util.regex.Matcher;
import java.util.regex.Pattern;

/** The form of the program by ../shared/LANGUAGE.md, as far as a test can see it. */
final class FormTest {
    private static final Set<String> FACE = Set.of("int feed(int,int,int,int,int)", "int trim(int)", "int teach()",
            "int errorAt()", "int count(int)", "int layer(int,int)", "int terms(int,int,int)", "int open(int,int,int)",
            "int pay(int,int)", "int setReserve(int,int)", "int close(int,boolean)", "int claim(int,int)",
            "int at(int,int,boolean)", "int gets(int,int,boolean)", "int used(int,int,int)", "int nextYear()",
            "int setPremium(int,int,int)", "int setTail(int)", "int triangle(int,int,int)", "int factor(int,int)",
            "int ultimate(int,int,boolean)", "int reserve(int,int)", "int worst(int)", "int would(int,int,int)",
            "int without(int)", "int reaches(int,int)", "int keenest()", "double kept()", "long digest()");
    private static final List<String> BANNED = List.of("->", "::", "finally", "synchronized", "assert", "Exact",
            "try ", "catch", "System.", "Random", "Thread", "static {", "this;", "this)", "this,", ".ordinal", "hashCode",
            "toString", "import java.io", "import java.util.function", "instanceof", "<String>");

    private FormTest() {
    }

    public static void main(String[] args) throws Exception {
        face();
        namesInside();
        source();
        Check.end();
    }

    private static void face() {
        Set<String> open = new TreeSet<>();
        for (Method method : LossHouse.class.getDeclaredMethods()) {
            if (!Modifier.isPrivate(method.getModifiers()) && !method.isSynthetic()) {
                StringBuilder told = new StringBuilder(method.getReturnType() + " " + method.getName() + "(");
                for (Class<?> type : method.getParameterTypes()) {
                    told.append(told.charAt(told.length() - 1) == '(' ? "" : ",").append(type);
                }
                open.add(told.append(')').toString());
                Check.same(method.getName() + " is public", Modifier.isPublic(method.getModifiers()) ? 1 : 0, 1);
            }
        }
        Check.same("the face is that of the document", open.equals(new TreeSet<>(FACE)) ? 1 : 0, 1);
        for (Field field : LossHouse.class.getDeclaredFields()) {
            Check.same(field.getName() + " is private", Modifier.isPrivate(field.getModifiers()) ? 1 : 0, 1);
        }
        Constructor<?>[] constructors = LossHouse.class.getDeclaredConstructors();
        Check.same("constructors", constructors.length, 1);
        Check.same("its parameters", constructors[0].getParameterCount(), 0);
        Check.same("final", Modifier.isFinal(LossHouse.class.getModifiers()) ? 1 : 0, 1);
    }

    private static void namesInside() {
        Class<?>[] inside = LossHouse.class.getDeclaredClasses();
        Check.same("at most twelve classes", inside.length <= 11 ? 1 : 0, 1);
        for (Class<?> one : inside) {
            Check.same(one + " is static", Modifier.isStatic(one.getModifiers()) ? 1 : 0, 1);
            for (Method method : one.getDeclaredMethods()) {
                boolean isOfFace = FACE.stream().anyMatch(f -> f.contains(" " + method.getName() + "("));
                Check.same(one + " has a method of the name " + method.getName(), isOfFace ? 1 : 0, 0);
                Check.same(method + " has at most seven parameters", method.getParameterCount() <= 7 ? 1 : 0, 1);
            }
            for (Field field : one.getDeclaredFields()) {
                boolean isOpen = Modifier.isStatic(field.getModifiers()) && !Modifier.isFinal(field.getModifiers());
                Check.same(field + " is static and no constant", isOpen ? 1 : 0, 0);
            }
        }
    }

    private static void source() throws Exception {
        String source = Files.readString(Path.of("src/main/java/LossHouse.java"));
        for (String banned : BANNED) {
            Check.same("'" + banned + "' in the source", source.contains(banned) ? 1 : 0, 0);
        }
        Matcher imports = Pattern.compile("import ([\\w.]+);").matcher(source);
        while (imports.find()) {
            boolean isKnown = imports.group(1).equals("java.util.ArrayList") || imports.group(1).equals("java.util.List");
            Check.same("import of " + imports.group(1), isKnown ? 1 : 0, 1);
        }
    }
}
