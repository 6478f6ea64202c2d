import java.io.IOException;
import java.lang.reflect.Constructor;
import java.lang.reflect.Field;
import java.lang.reflect.Member;
import java.lang.reflect.Method;
import java.lang.reflect.Modifier;
import java.nio.file.Files;
import java.nio.file.Path;
import java.util.ArrayList;
import java.util.List;
import java.util.Set;
import java.util.TreeSet;
import java.util.regex.Matcher;
import java.util.regex.Pattern;

/** The form of the program: the document's face, and the rules of the language that can be seen from outside. */
public final class FormTest {
    private static final Set<String> FACE = new TreeSet<>(List.of("int feed(long, int)", "int number(long)",
            "int scalar(int, int, long, long)", "int table()", "int column(int, int, int, int, long, long)",
            "int status(int, int)", "int row(int, int, boolean)", "int value(int, int, long)", "int text(int, int)",
            "int identity(int, int)", "int community(boolean)", "int view(int, boolean)", "int limit(int)",
            "long tick(long)", "int question()", "int answer(int)", "int count(int)", "int rows(int)",
            "long told(int, int)", "long part(int, int, int)"));
    private static final List<String> BANNED = List.of("import", "throw", "throws", "try", "catch", "synchronized", "assert",
            "Object", "Exception", "->", "::", "static \\{");

    public static void main(String[] args) throws IOException {
        face();
        nestedClasses();
        source(Files.readString(Path.of("src/main/java/TreeAgent.java")));
        Check.finish();
    }

    private static String shown(Method method) {
        List<String> types = new ArrayList<>();
        for (Class<?> type : method.getParameterTypes()) {
            types.add(type.getName());
        }
        return method.getReturnType().getName() + " " + method.getName() + "(" + String.join(", ", types) + ")";
    }

    private static void face() {
        Class<?> agent = TreeAgent.class;
        Check.isTrue("rule 1: public and final", Modifier.isPublic(agent.getModifiers()) && Modifier.isFinal(agent.getModifiers()));
        Set<String> seen = new TreeSet<>();
        for (Method method : agent.getDeclaredMethods()) {
            if (Modifier.isPublic(method.getModifiers())) {
                seen.add(shown(method));
            } else {
                isPrivate(method);
                hasOwnName(method);
            }
        }
        Check.isTrue("rule 1: the face is " + seen, seen.equals(FACE));
        Constructor<?>[] makers = agent.getDeclaredConstructors();
        Check.isTrue("rule 1: one public constructor", makers.length == 1 && Modifier.isPublic(makers[0].getModifiers())
                && makers[0].getParameterCount() == 0);
        for (Field field : agent.getDeclaredFields()) {
            isPrivate(field);
        }
        staticsAreFinal(agent);
    }

    private static void isPrivate(Member member) {
        Check.isTrue("rule 1: " + member.getName() + " is private", Modifier.isPrivate(member.getModifiers()));
    }

    private static void hasOwnName(Method method) {
        boolean own = FACE.stream().noneMatch(one -> one.contains(" " + method.getName() + "("));
        Check.isTrue("rule 1: " + method.getName() + " bears the name of a public method", own);
        Check.isTrue("rule 11: " + method.getName() + " takes at most seven", method.getParameterCount() <= 7);
    }

    private static void staticsAreFinal(Class<?> one) {
        int own = 0;
        for (Field field : one.getDeclaredFields()) {
            boolean isStatic = Modifier.isStatic(field.getModifiers());
            own += isStatic ? 0 : 1;
            Check.isTrue("rule 5: " + field.getName(), !isStatic || Modifier.isFinal(field.getModifiers()));
        }
        Check.isTrue("rule 11: " + one.getName() + " has some twenty fields", own <= 20);
    }

    private static void nestedClasses() {
        Class<?>[] nested = TreeAgent.class.getDeclaredClasses();
        Check.isTrue("rule 11: some twelve classes", nested.length + 1 <= 12);
        for (Class<?> one : nested) {
            Check.isTrue("rule 2: " + one.getName() + " is static", Modifier.isStatic(one.getModifiers()));
            Check.isTrue("rule 1: " + one.getName() + " is private", Modifier.isPrivate(one.getModifiers()));
            for (Method method : one.getDeclaredMethods()) {
                hasOwnName(method);
            }
            staticsAreFinal(one);
        }
    }

    private static void source(String text) {
        String code = text.replaceAll("(?s)/\\*.*?\\*/", "").replaceAll("//[^\\n]*", "");
        for (String word : BANNED) {
            String pattern = word.matches("\\w+") ? "\\b" + word + "\\b" : word;
            Check.isTrue("rules 4, 5, 6: " + word, !Pattern.compile(pattern).matcher(code).find());
        }
        Matcher bodies = Pattern.compile("(?m)^( {4}| {8})(?! )[^\\n;=]*\\([^\\n]*\\) \\{\\n((?s).*?)^\\1\\}").matcher(text);
        int methods = 0;
        while (bodies.find()) {
            methods++;
            long lines = bodies.group(2).lines().count();
            Check.isTrue("rule 11: a method of " + lines + " lines: " + bodies.group().trim().lines().findFirst().get(),
                    lines <= 60);
        }
        Check.isTrue("rule 11: the methods were found", methods > 100);
    }
}
