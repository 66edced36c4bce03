import java.io.IOException;
import java.lang.reflect.Constructor;
import java.lang.reflect.Field;
import java.lang.reflect.Method;
import java.lang.reflect.Modifier;
import java.nio.file.Files;
import java.nio.file.Path;
import java.util.ArrayList;
import java.util.Arrays;
import java.util.HashMap;
import java.util.HashSet;
import java.util.LinkedHashMap;
import java.util.List;
import java.util.Map;
import java.util.Set;
import java.util.TreeSet;
import java.util.regex.Matcher;
import java.util.regex.Pattern;

/** What of LANGUAGE.md can be seen in the source and the class, and the document's face; takes the project's folder. */
public final class RulesTest {
    private static final String[] FACE = {
        "int number(long) IllegalStateException",
        "int name(int) IndexOutOfBoundsException IllegalStateException",
        "int function(int) IndexOutOfBoundsException IllegalStateException",
        "int call() IllegalStateException",
        "int two(int) IllegalArgumentException IllegalStateException",
        "int choose() IllegalStateException",
        "int let(int) IndexOutOfBoundsException IllegalStateException",
        "int rec(int,int) IndexOutOfBoundsException IllegalStateException",
        "int pair() IllegalStateException",
        "int half(boolean) IllegalStateException",
        "int raise() IllegalStateException",
        "int handle(int) IndexOutOfBoundsException IllegalStateException",
        "int program() IllegalStateException",
        "int fault() IllegalStateException",
        "int type(int) IndexOutOfBoundsException IllegalStateException",
        "int optimise(int) IllegalArgumentException IllegalStateException",
        "int size()",
        "int orders() IllegalStateException",
        "long order(int,int) IndexOutOfBoundsException IllegalArgumentException",
        "boolean stop(int,boolean) IndexOutOfBoundsException",
        "int go(int) IllegalArgumentException IllegalStateException",
        "void again() IllegalStateException",
        "int state() IllegalStateException",
        "long value() IllegalStateException",
        "int machine(int) IllegalArgumentException IllegalStateException",
        "int stateAnew() IllegalStateException",
        "long valueAnew() IllegalStateException"};
    private static final String[] FORBIDDEN = {"\\bimport\\b", "\\bpackage\\b", "->", "::", "\\btry\\b", "\\bcatch\\b", "\\bfinally\\b", "\\bsynchronized\\b",
        "\\bassert\\b", "\\bprotected\\b", "\\bnative\\b", "\\bSystem\\b", "\\bMath\\b", "\\bThread\\b", "\\bObject\\b", "\\bString\\b", "[^ ]\\bvar\\b", "\\bfloat\\b",
        "\\bdouble\\b", " / ", " % ", "\\bgetClass\\b", "\\binstanceof\\b"};
    private static int passed;
    private static int wrong;

    public static void main(String[] args) throws IOException {
        String source = Files.readString(Path.of(args[0], "src/main/java/Selfkindle.java"));
        String code = source.replaceAll("(?s)/\\*.*?\\*/", "").replaceAll("//[^\n]*", "");
        face();
        members();
        for (String pattern : FORBIDDEN) {
            check("no " + pattern, !Pattern.compile(pattern).matcher(code).find());
        }
        for (char sign : source.toCharArray()) {
            if (sign > 127) {
                check("signs 1 to 127", false);
            }
        }
        check("exceptions without a text or with a written one", throwsArePlain(code));
        methodsAreShort(source);
        callsGoUpward(code);
        System.out.println(passed + " passed, " + wrong + " failed");
        if (wrong != 0) {
            System.exit(1);
        }
    }

    private static void check(String what, boolean holds) {
        if (holds) {
            passed++;
        } else {
            wrong++;
            System.out.println("not so: " + what);
        }
    }

    private static void face() {
        Set<String> got = new TreeSet<>();
        for (Method method : Selfkindle.class.getDeclaredMethods()) {
            if (Modifier.isPublic(method.getModifiers())) {
                StringBuilder text = new StringBuilder(method.getReturnType() + " " + method.getName() + "(");
                for (Class<?> type : method.getParameterTypes()) {
                    text.append(text.charAt(text.length() - 1) == '(' ? "" : ",").append(type);
                }
                text.append(")");
                for (Class<?> type : method.getExceptionTypes()) {
                    text.append(" ").append(type.getSimpleName());
                }
                got.add(text.toString());
            }
        }
        check("the face's methods, " + got, got.equals(new TreeSet<>(Arrays.asList(FACE))));
        Constructor<?>[] made = Selfkindle.class.getDeclaredConstructors();
        check("one public constructor", made.length == 1 && made[0].getParameterCount() == 0 && Modifier.isPublic(made[0].getModifiers()));
        check("final", Modifier.isFinal(Selfkindle.class.getModifiers()));
    }

    private static void members() {
        Set<String> open = new HashSet<>();
        int constants = 0;
        for (Method method : Selfkindle.class.getDeclaredMethods()) {
            check("public or private: " + method, Modifier.isPublic(method.getModifiers()) || Modifier.isPrivate(method.getModifiers()));
            if (Modifier.isPublic(method.getModifiers())) {
                open.add(method.getName());
            }
        }
        for (Field field : Selfkindle.class.getDeclaredFields()) {
            boolean isConstant = Modifier.isPublic(field.getModifiers());
            constants += isConstant ? 1 : 0;
            check("public constant or private: " + field, isConstant ? Modifier.isStatic(field.getModifiers()) : Modifier.isPrivate(field.getModifiers()));
        }
        check("31 constants", constants == 31);
        List<Class<?>> all = new ArrayList<>(Arrays.asList(Selfkindle.class.getDeclaredClasses()));
        check("some twelve classes", all.size() <= 12);
        for (Class<?> inner : all) {
            check("static inside: " + inner, Modifier.isStatic(inner.getModifiers()) && !Modifier.isPublic(inner.getModifiers()));
        }
        all.add(Selfkindle.class);
        for (Class<?> one : all) {
            int fields = 0;
            for (Field field : one.getDeclaredFields()) {
                fields += Modifier.isStatic(field.getModifiers()) ? 0 : 1;
                check("static is final: " + field, !Modifier.isStatic(field.getModifiers()) || Modifier.isFinal(field.getModifiers()));
            }
            check("some twenty fields: " + one, fields <= 20);
            for (Method method : one.getDeclaredMethods()) {
                check("seven parameters: " + method, method.getParameterCount() <= 7);
                check("no other method of a public one's name: " + method, Modifier.isPublic(method.getModifiers()) || !open.contains(method.getName()));
            }
        }
    }

    private static boolean throwsArePlain(String code) {
        Matcher thrown = Pattern.compile("throw\\b[^;]*;").matcher(code);
        while (thrown.find()) {
            if (!thrown.group().matches("throw new (IllegalStateException|IllegalArgumentException|IndexOutOfBoundsException)\\(\\);")) {
                return false;
            }
        }
        return true;
    }

    private static void methodsAreShort(String source) {
        String[] lines = source.split("\n");
        int begun = 0;
        for (int i = 0; i < lines.length; i++) {
            boolean isBegin = lines[i].matches("( {4}| {8})(public |private |static )*[A-Za-z\\[\\]]+ [a-zA-Z]+\\(.*\\{");
            if (isBegin) {
                begun = i;
            }
            if (lines[i].matches(" {4}\\}| {8}\\}")) {
                check("sixty lines: " + lines[begun].trim(), i - begun <= 60);
            }
        }
    }

    /** Methods are told as class and name; a call behind a dot is one of any class that has a method of that name. */
    private static void callsGoUpward(String code) {
        Map<String, String> bodies = new LinkedHashMap<>();
        String holder = "Selfkindle";
        Matcher begin = Pattern.compile("\n( {4}| {8})(?:(?:public|private|static|final) )*([A-Za-z\\[\\]]+ )?(?:class ([A-Za-z]+)|([a-zA-Z]+)\\([^\n]*) \\{\n").matcher(code);
        while (begin.find()) {
            if (begin.group(3) != null) {
                holder = begin.group(3);
                continue;
            }
            int end = code.indexOf("\n" + begin.group(1) + "}", begin.end() - 1);
            String own = begin.group(1).length() == 4 ? "Selfkindle" : holder;
            check("one method of a name in a class: " + begin.group(4), bodies.put(own + "." + begin.group(4), code.substring(begin.end() - 1, end)) == null);
        }
        check("many methods", bodies.size() > 100);
        Map<String, Set<String>> calls = new HashMap<>();
        for (Map.Entry<String, String> one : bodies.entrySet()) {
            calls.put(one.getKey(), calledBy(one.getKey(), one.getValue(), bodies.keySet()));
        }
        Map<String, Integer> depths = new HashMap<>();
        for (String name : bodies.keySet()) {
            int depth = depth(name, calls, depths, 1);
            check("no recursion, and at most eight deep: " + name + ", " + depth, depth <= 8);
        }
        check("told to the deepest", depths.get("Selfkindle.stateAnew") > 5);
    }

    private static Set<String> calledBy(String name, String body, Set<String> all) {
        Set<String> called = new HashSet<>();
        Matcher call = Pattern.compile("(new )?(\\.)?\\b([a-zA-Z]+)\\(").matcher(body);
        while (call.find()) {
            String method = "." + call.group(3);
            if (call.group(1) != null) {
                method = call.group(3) + method;
            }
            String own = name.substring(0, name.indexOf('.')) + method;
            for (String other : all) {
                boolean isMeant = call.group(1) != null ? other.equals(method) : call.group(2) != null ? other.endsWith(method)
                    : other.equals(all.contains(own) ? own : "Selfkindle" + method);
                if (isMeant) {
                    called.add(other);
                }
            }
        }
        return called;
    }

    /** How deep the calls go from a method on; a circle is told as far too deep. */
    private static int depth(String name, Map<String, Set<String>> calls, Map<String, Integer> depths, int open) {
        if (open > 100 || depths.containsKey(name)) {
            return depths.getOrDefault(name, 1000);
        }
        int most = 0;
        for (String other : calls.get(name)) {
            most = Math.max(most, depth(other, calls, depths, open + 1));
        }
        depths.put(name, most + 1);
        return most + 1;
    }
}
