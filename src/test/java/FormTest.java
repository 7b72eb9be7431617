import java.lang.reflect.Constructor;
import java.lang.reflect.Field;
import java.lang.reflect.Method;
import java.lang.reflect.Modifier;
import java.nio.file.Files;
import java.nio.file.Path;
import java.util.List;
import java.util.Set;
import java.util.TreeSet;
import java.util.regex.Matcher;
import java.util.regex.Pattern;

/** The form of the program by ../shared/LANGUAGE.md, as far as a test can see it. */
final class FormTest {
    private static final Set<String> FACE = Set.of("int feed(int,int,int,int,int)", "int trim(int)", "int teach()",
            "int errorAt()", "int count(int)", "int layer(int,int)", "int terms(int,int,int)", "int open(int,int,int)",
            "int pay(int,int)", "int setReserve(int,int)", "int close(int,boolean)", "int claim(int,int)",
            "int at(int,int,boolean)", "int gets(int,int,boolean)", "int used(int,int,int)", "int nextYear()",
            "int setPremium(int,int,int)", "int setTail(int)", "int triangle(int,int,int)", "int factor(int,int)",
            "int ultimate(int,int,boolean)", "int reserve(int,int)", "int worst(int)", "int would(int,int,int)",
            "int without(int)", "int reaches(int,int)", "int keenest()", "double kept()", "long digest()");
    private static final List<String> BANNED = List.of("->", "::", "finally", "synchronized", "assert", "Exact",
            "Random", "Thread", "static {", ".ordinal", "hashCode", "boolean equals(", "String toString()", "<String>",
            "extends Exception", "extends RuntimeException", "getMessage", "String.format", "Math.sqrt", "Math.round");
    private static final Set<String> THROWN = Set.of("IllegalStateException", "IllegalArgumentException",
            "IndexOutOfBoundsException");
    private static final Set<String> IMPORTED = Set.of("java.util.ArrayList", "java.util.List", "java.util.Arrays",
            "java.util.Iterator", "java.util.NoSuchElementException");

    private FormTest() {
    }

    public static void main(String[] args) throws Exception {
        face();
        namesInside();
        source();
        Check.end();
    }

    private static void face() {
        Set<String> open = new TreeSet<>();
        for (Method method : LossHouse.class.getDeclaredMethods()) {
            if (!Modifier.isPrivate(method.getModifiers()) && !method.isSynthetic()) {
                StringBuilder told = new StringBuilder(method.getReturnType() + " " + method.getName() + "(");
                for (Class<?> type : method.getParameterTypes()) {
                    told.append(told.charAt(told.length() - 1) == '(' ? "" : ",").append(type);
                }
                open.add(told.append(')').toString());
                Check.same(method.getName() + " is public", Modifier.isPublic(method.getModifiers()) ? 1 : 0, 1);
            }
        }
        Check.same("the face is that of the document", open.equals(new TreeSet<>(FACE)) ? 1 : 0, 1);
        for (Field field : LossHouse.class.getDeclaredFields()) {
            Check.same(field.getName() + " is private", Modifier.isPrivate(field.getModifiers()) ? 1 : 0, 1);
        }
        Constructor<?>[] constructors = LossHouse.class.getDeclaredConstructors();
        Check.same("constructors", constructors.length, 1);
        Check.same("its parameters", constructors[0].getParameterCount(), 0);
        Check.same("final", Modifier.isFinal(LossHouse.class.getModifiers()) ? 1 : 0, 1);
    }

    private static void namesInside() {
        Class<?>[] inside = LossHouse.class.getDeclaredClasses();
        Check.same("at most twelve classes", inside.length <= 11 ? 1 : 0, 1);
        for (Class<?> one : inside) {
            Check.same(one + " is static", Modifier.isStatic(one.getModifiers()) ? 1 : 0, 1);
            for (Method method : one.getDeclaredMethods()) {
                boolean isOfFace = FACE.stream().anyMatch(f -> f.contains(" " + method.getName() + "("));
                Check.same(one + " has a method of the name " + method.getName(), isOfFace ? 1 : 0, 0);
                Check.same(method + " has at most seven parameters", method.getParameterCount() <= 7 ? 1 : 0, 1);
            }
            for (Field field : one.getDeclaredFields()) {
                boolean isOpen = Modifier.isStatic(field.getModifiers()) && !Modifier.isFinal(field.getModifiers());
                Check.same(field + " is static and no constant", isOpen ? 1 : 0, 0);
            }
        }
    }

    private static void source() throws Exception {
        String source = Files.readString(Path.of("src/main/java/LossHouse.java"));
        for (String banned : BANNED) {
            Check.same("'" + banned + "' in the source", source.contains(banned) ? 1 : 0, 0);
        }
        Matcher imports = Pattern.compile("import ([\\w.]+);").matcher(source);
        while (imports.find()) {
            Check.same("import of " + imports.group(1), IMPORTED.contains(imports.group(1)) ? 1 : 0, 1);
        }
        exceptions(source);
        systemCalls(source);
        methodsAreShort(source);
    }

    /** Rule 6: what is thrown is written out, and caught is what the program throws itself. */
    private static void exceptions(String source) {
        Matcher thrown = Pattern.compile("\\bthrow (new (\\w+)\\((\"[^\"]*\")?\\);)?").matcher(source);
        while (thrown.find()) {
            boolean isKnown = thrown.group(2) != null && THROWN.contains(thrown.group(2));
            Check.same("'" + thrown.group() + "'", isKnown ? 1 : 0, 1);
        }
        Matcher caught = Pattern.compile("\\bcatch \\((\\w+)").matcher(source);
        while (caught.find()) {
            boolean isOfProgram = THROWN.contains(caught.group(1)) && !caught.group(1).startsWith("Index");
            Check.same("'" + caught.group() + "'", isOfProgram ? 1 : 0, 1);
        }
    }

    private static void systemCalls(String source) {
        Matcher calls = Pattern.compile("\\bSystem\\.(\\w+)").matcher(source);
        while (calls.find()) {
            Check.same("'" + calls.group() + "'", calls.group(1).equals("arraycopy") ? 1 : 0, 1);
        }
    }

    /** Rule 11: some sixty lines; a method of a class inside stands eight blanks in, one of the face four. */
    private static void methodsAreShort(String source) {
        Matcher methods = Pattern.compile("(?m)^(    |        )(?=\\S)[\\w<>\\[\\], ]+\\([^;]*?\\{\\R(.*\\R)*?\\1\\}$").matcher(source);
        int count = 0;
        while (methods.find()) {
            count++;
            String first = methods.group().lines().findFirst().orElse("").trim();
            Check.same("more than sixty lines: " + first, methods.group().lines().count() <= 60 ? 1 : 0, 1);
        }
        Check.same("methods are found", count > 60 ? 1 : 0, 1);
    }
}
