import java.io.IOException;
import java.lang.reflect.Constructor;
import java.lang.reflect.Field;
import java.lang.reflect.Method;
import java.lang.reflect.Modifier;
import java.nio.charset.StandardCharsets;
import java.nio.file.Files;
import java.nio.file.Path;
import java.util.ArrayList;
import java.util.List;
import java.util.Set;
import java.util.TreeSet;
import java.util.regex.Matcher;
import java.util.regex.Pattern;

/** The public face, and such rules of LANGUAGE.md as can be seen in the class or its source. */
public final class FaceTest {
    private static final Path SOURCE = Path.of("src/main/java/WindowHouse.java");
    private static final String FACE = """
            int feed(int,int,int,int,int)
            int app(int,int)
            int fault()
            int where()
            int about(int,int)
            int button(int,int,int)
            int act(int,int)
            int state(int,int)
            int var(int,int)
            int can(int,int)
            boolean begin(int)
            int map(int)
            int met(int,int)
            int leads(int,int)
            int rowTo(int)
            int faultAt(int)
            int pressedAt(int)
            int never()
            int holdsAt(int,int)
            int stuck(int)
            int least()
            int views()
            int farthest()
            int ways()
            int push(int)
            boolean cut(int)
            int tryRow(int)
            int tried()
            int shorter(int)
            int row(int) throws NoSuchElementException
            int apart()
            int count(int)
            int trouble()
            """;

    private static final List<String> wrong = new ArrayList<>();

    public static void main(String[] args) throws IOException {
        face();
        inside();
        source();
        wrong.forEach(System.out::println);
        System.out.println(wrong.size() + " rules broken");
        if (!wrong.isEmpty()) {
            System.exit(1);
        }
    }

    private static void must(boolean holds, String what) {
        if (!holds) {
            wrong.add(what);
        }
    }

    private static void face() {
        Class<?> house = WindowHouse.class;
        must(Modifier.isPublic(house.getModifiers()) && Modifier.isFinal(house.getModifiers()), "the class is public and final");
        Set<String> due = new TreeSet<>(List.of(FACE.split("\n")));
        Set<String> got = new TreeSet<>();
        Set<String> names = new TreeSet<>();
        for (Method method : house.getDeclaredMethods()) {
            if (Modifier.isPublic(method.getModifiers())) {
                StringBuilder types = new StringBuilder();
                for (Class<?> type : method.getParameterTypes()) {
                    types.append(types.length() > 0 ? "," : "").append(type.getSimpleName());
                }
                StringBuilder thrown = new StringBuilder();
                for (Class<?> type : method.getExceptionTypes()) {
                    thrown.append(" throws ").append(type.getSimpleName());
                }
                got.add(method.getReturnType().getSimpleName() + " " + method.getName() + "(" + types + ")" + thrown);
                names.add(method.getName());
                must(!Modifier.isStatic(method.getModifiers()), "not static: " + method);
            } else {
                must(Modifier.isPrivate(method.getModifiers()), "private: " + method);
            }
        }
        must(due.equals(got), "the face is " + got);
        Set<String> constants = new TreeSet<>();
        for (Field field : house.getDeclaredFields()) {
            if (!Modifier.isPrivate(field.getModifiers())) {
                constants.add(Modifier.toString(field.getModifiers()) + " " + field.getType() + " " + field.getName());
            }
        }
        must(constants.equals(Set.of("public static final int NONE")), "the constants are " + constants);
        must(WindowHouse.NONE == -1, "NONE is -1");
        Constructor<?>[] makers = house.getDeclaredConstructors();
        must(makers.length == 1 && Modifier.isPublic(makers[0].getModifiers()) && makers[0].getParameterCount() == 0, "one constructor");
        for (Class<?> inner : all()) {
            for (Method method : inner.getDeclaredMethods()) {
                must(Modifier.isPublic(method.getModifiers()) && inner == house || !names.contains(method.getName()),
                        "the name of a public method: " + method);
            }
        }
    }

    private static List<Class<?>> all() {
        List<Class<?>> all = new ArrayList<>(List.of(WindowHouse.class));
        all.addAll(List.of(WindowHouse.class.getDeclaredClasses()));
        return all;
    }

    private static void inside() {
        must(all().size() <= 12, "at most twelve classes");
        for (Class<?> inner : all()) {
            must(inner == WindowHouse.class || Modifier.isStatic(inner.getModifiers()), "static: " + inner);
            int own = 0;
            for (Field field : inner.getDeclaredFields()) {
                boolean constant = Modifier.isStatic(field.getModifiers());
                must(!constant || Modifier.isFinal(field.getModifiers()), "final: " + field);
                own += constant ? 0 : 1;
            }
            must(own <= 20, "at most twenty fields: " + inner + " has " + own);
            for (Method method : inner.getDeclaredMethods()) {
                must(method.getParameterCount() <= 7, "at most seven parameters: " + method);
            }
        }
    }

    private static void source() throws IOException {
        String text = Files.readString(SOURCE, StandardCharsets.US_ASCII);
        String code = text.replaceAll("(?s)/\\*.*?\\*/", "").replaceAll("//[^\n]*", "");
        for (String not : List.of("\\bcatch\\b", "\\bfinally\\b", "->", "::", "\\bsynchronized\\b", "\\bassert\\b", "Exact\\b", "\\bpackage\\b",
                "\\bSystem\\.(?!arraycopy)", "\\bnull\\b", "\\bstatic\\s*\\{", "\\bdouble\\b", "\\bfloat\\b", "\\bwhile\\s*\\(true", "\\bfor\\s*\\(;")) {
            must(!Pattern.compile(not).matcher(code).find(), "not in the source: " + not);
        }
        Matcher imports = Pattern.compile("import ([^;]*);").matcher(code);
        while (imports.find()) {
            must(Set.of("java.util.Arrays", "java.util.NoSuchElementException").contains(imports.group(1)), "import " + imports.group(1));
        }
        methodsAreShort(text);
    }

    private static void methodsAreShort(String text) {
        String[] lines = text.split("\n");
        String name = "";
        int start = 0;
        for (int k = 0; k < lines.length; k++) {
            if (lines[k].matches(" {4}( {4})?(public|private)[^;=]*\\(.*\\{")) {
                name = lines[k].trim();
                start = k;
            }
            if (lines[k].matches(" {4}( {4})?\\}")) {
                must(name.isEmpty() || k - start < 60, "at most sixty lines: " + name);
                name = "";
            }
        }
    }
}
