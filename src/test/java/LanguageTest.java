import java.io.IOException;
import java.lang.reflect.Constructor;
import java.lang.reflect.Field;
import java.lang.reflect.Method;
import java.lang.reflect.Modifier;
import java.nio.file.Files;
import java.nio.file.Path;
import java.util.Arrays;
import java.util.HashMap;
import java.util.HashSet;
import java.util.Map;
import java.util.Set;
import java.util.TreeSet;
import java.util.regex.Matcher;
import java.util.regex.Pattern;

/** The face of the document, and the rules of ../shared/LANGUAGE.md that a look at the file can test. */
public final class LanguageTest {
    private static final String[] FACE = {"int about(int)", "boolean bind(int,int)", "int book()",
        "long count(int,int)", "int end(int)", "int fault(int)", "int feed(int,int,int,int,int)", "int node(int,int)",
        "int quarrel()", "int read(long)", "int sentence()", "int sure()", "int tighter(int,int)", "int under(int,int)",
        "int word(int,int)", "int work()", "int worked(int)"};

    public static void main(String[] args) throws IOException {
        face();
        inside();
        text(Files.readString(Path.of(args[0])));
        Check.finish("LanguageTest");
    }

    private static void face() {
        Class<?> face = MixfixBench.class;
        Check.due("the class is public and final", face.getModifiers(), Modifier.PUBLIC | Modifier.FINAL);
        Set<String> methods = new TreeSet<>();
        for (Method method : face.getDeclaredMethods()) {
            if (!Modifier.isPrivate(method.getModifiers()) && !method.isSynthetic()) {
                Check.due(method + " is public and no more", method.getModifiers(), Modifier.PUBLIC);
                StringBuilder types = new StringBuilder();
                for (Class<?> type : method.getParameterTypes()) {
                    types.append(types.length() == 0 ? "" : ",").append(type);
                }
                methods.add(method.getReturnType() + " " + method.getName() + "(" + types + ")");
            }
        }
        Check.due("the methods " + methods, methods.equals(new TreeSet<>(Arrays.asList(FACE))), true);
        for (Field field : face.getDeclaredFields()) {
            boolean constant = field.getName().equals("NONE")
                && field.getModifiers() == (Modifier.PUBLIC | Modifier.STATIC | Modifier.FINAL);
            Check.due("the field " + field, constant || Modifier.isPrivate(field.getModifiers()), true);
        }
        Constructor<?>[] constructors = face.getDeclaredConstructors();
        Check.due("constructors", constructors.length, 1);
        Check.due("the constructor is public", constructors[0].getModifiers(), Modifier.PUBLIC);
        Check.due("its parameters", constructors[0].getParameterCount(), 0);
    }

    private static void inside() {
        Set<String> open = new HashSet<>();
        for (String method : FACE) {
            open.add(method.substring(method.indexOf(' ') + 1, method.indexOf('(')));
        }
        Class<?>[] classes = MixfixBench.class.getDeclaredClasses();
        Check.due("the file has at most twelve classes", classes.length <= 11, true);
        for (Class<?> inner : classes) {
            int modifiers = inner.getModifiers();
            Check.due(inner + " is static", Modifier.isStatic(modifiers), true);
            Check.due(inner + " is closed", Modifier.isPublic(modifiers) || Modifier.isProtected(modifiers), false);
            int fields = 0;
            for (Field field : inner.getDeclaredFields()) {
                boolean fixed = Modifier.isStatic(field.getModifiers());
                Check.due(field + " is final if static", !fixed || Modifier.isFinal(field.getModifiers()), true);
                fields += fixed ? 0 : 1;
            }
            Check.due(inner + " has at most twenty fields", fields <= 20, true);
            for (Method method : inner.getDeclaredMethods()) {
                Check.due(method + " has a name of its own", open.contains(method.getName()), false);
                Check.due(method + " has at most seven parameters", method.getParameterCount() <= 7, true);
            }
        }
    }

    private static void text(String source) {
        String code = source.replaceAll("(?s)/\\*.*?\\*/", "").replaceAll("//[^\n]*", "");
        for (String word : new String[] {"throw", "throws", "try", "catch", "synchronized", "assert", "import", "package",
            "Exact", "Object", "System\\.(?!arraycopy)", "Math\\.", "Thread", "Random", "->", "::", "Exception", "yield"}) {
            String pattern = word.matches("\\w+") ? "(?s).*\\b" + word + "\\b.*" : "(?s).*" + word + ".*";
            Check.due(word + " in the code", code.matches(pattern), false);
        }
        for (int at = 0; at < source.length(); at++) {
            char c = source.charAt(at);
            Check.due("the sign at " + at, c == '\n' || c >= 32 && c <= 126, true);
        }
        methods(code);
        calls(code);
    }

    private static void methods(String code) {
        int length = 0;
        for (String line : code.split("\n")) {
            boolean begins = line.matches(" {4}( {4})?[\\w<].*\\{");
            length = begins ? 1 : length + 1;
            boolean ends = line.equals("        }");
            Check.due("a method of " + length + " lines", ends && length > 60, false);
        }
    }

    /** Rules 8 and 11: calls go at most eight deep, and there is no recursion. Methods of one name count as one. */
    private static void calls(String code) {
        Map<String, Set<String>> called = new HashMap<>();
        Set<String> within = new HashSet<>();
        for (String line : code.split("\n")) {
            Matcher head = Pattern.compile(" {4}( {4})?[\\w<][^=]*?\\b(\\w+)\\(.*\\) \\{").matcher(line);
            if (head.matches()) {
                within = called.computeIfAbsent(head.group(2), name -> new HashSet<>());
            } else {
                Matcher call = Pattern.compile("\\b(\\w+)\\(").matcher(line);
                while (call.find()) {
                    within.add(call.group(1));
                }
            }
        }
        Check.due("enough methods were found", called.size() > 80, true);
        for (String method : called.keySet()) {
            Check.due("calls from " + method + " go at most eight deep", depth(method, called, 0) <= 8, true);
        }
    }

    private static int depth(String method, Map<String, Set<String>> called, int above) {
        int most = 0;
        for (String inner : called.get(method)) {
            if (called.containsKey(inner) && above < 20) {
                most = Math.max(most, depth(inner, called, above + 1));
            }
        }
        return most + 1;
    }
}
