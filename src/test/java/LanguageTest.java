import java.lang.reflect.Constructor;
import java.lang.reflect.Field;
import java.lang.reflect.Method;
import java.lang.reflect.Modifier;
import java.nio.file.Files;
import java.nio.file.Path;
import java.util.ArrayList;
import java.util.Arrays;
import java.util.HashSet;
import java.util.List;
import java.util.Set;
import java.util.TreeSet;
import java.util.regex.Matcher;
import java.util.regex.Pattern;

/** The face of the document, and those rules of LANGUAGE.md that can be read off the class and its source. */
public final class LanguageTest {
    private static final Bench BENCH = new Bench("LanguageTest");
    private static final String FACE = "bend(int,int) call(int,int,int) device(int,int,int) discover(int,int) end(int)"
        + " feed(int,int,int,int,int) get(int,long,int) hear(int,int,int) listed(int,int) octet(int,long,int,int)"
        + " of(int,int) put(int,long,int) size(int,long,int) store(int,long,int,int,int,int) take(int)"
        + " talk(int,int,int) tape(int,int) tick(int)";

    public static void main(String[] args) throws Exception {
        face();
        classesInside();
        source(Files.readString(Path.of("src/main/java/BeamHouse.java")));
        BENCH.ends();
    }

    private static void face() {
        Class<?> house = BeamHouse.class;
        BENCH.due("public and final", house.getModifiers() & (Modifier.PUBLIC | Modifier.FINAL),
            Modifier.PUBLIC | Modifier.FINAL);
        Set<String> face = new TreeSet<>();
        Set<String> names = new HashSet<>();
        for (Method method : house.getDeclaredMethods()) {
            if (Modifier.isPublic(method.getModifiers())) {
                face.add(signature(method));
                names.add(method.getName());
                BENCH.due(method + " answers an int", method.getReturnType().getName(), "int");
            }
        }
        BENCH.due("the face", String.join(" ", face), FACE);
        for (Method method : house.getDeclaredMethods()) {
            boolean isPrivate = Modifier.isPrivate(method.getModifiers());
            BENCH.due(method + " is private or of the face", isPrivate ^ names.contains(method.getName()) ? 1 : 0, 1);
        }
        for (Field field : house.getDeclaredFields()) {
            BENCH.due(field + " is private", Modifier.isPrivate(field.getModifiers()) ? 1 : 0, 1);
        }
        Constructor<?>[] makers = house.getDeclaredConstructors();
        BENCH.due("one constructor", makers.length, 1);
        BENCH.due("without arguments, public", makers[0].getParameterCount() + makers[0].getModifiers(), Modifier.PUBLIC);
    }

    private static String signature(Method method) {
        List<String> types = new ArrayList<>();
        for (Class<?> type : method.getParameterTypes()) {
            types.add(type.getName());
        }
        return method.getName() + "(" + String.join(",", types) + ")";
    }

    private static void classesInside() {
        Class<?>[] inside = BeamHouse.class.getDeclaredClasses();
        BENCH.due("at most twelve classes", inside.length <= 11 ? 1 : 0, 1);
        for (Class<?> one : inside) {
            BENCH.due(one + " is static", Modifier.isStatic(one.getModifiers()) ? 1 : 0, 1);
            BENCH.due(one + " is not public", one.getModifiers() & (Modifier.PUBLIC | Modifier.PROTECTED), 0);
            BENCH.due(one + " has none inside", one.getDeclaredClasses().length, 0);
        }
        List<Class<?>> all = new ArrayList<>(Arrays.asList(inside));
        all.add(BeamHouse.class);
        for (Class<?> one : all) {
            int fields = 0;
            for (Field field : one.getDeclaredFields()) {
                boolean isStatic = Modifier.isStatic(field.getModifiers());
                fields += isStatic ? 0 : 1;
                BENCH.due(field + ", if static, is final", !isStatic || Modifier.isFinal(field.getModifiers()) ? 1 : 0, 1);
            }
            BENCH.due(one + " has at most twenty fields", fields <= 20 ? 1 : 0, 1);
            for (Method method : one.getDeclaredMethods()) {
                BENCH.due(method + " takes at most seven", method.getParameterCount() <= 7 ? 1 : 0, 1);
                boolean isOfFace = one == BeamHouse.class && Modifier.isPublic(method.getModifiers());
                boolean hasItsName = (" " + FACE).contains(" " + method.getName() + "(");
                BENCH.due(method + " has a name of the face, if it is of it", hasItsName ? 1 : 0, isOfFace ? 1 : 0);
            }
        }
    }

    private static void source(String text) {
        String code = text.replaceAll("(?s)/\\*.*?\\*/", "").replaceAll("//[^\n]*", "").replaceAll("\"[^\"\n]*\"", "\"\"");
        for (String word : new String[] {"throw", "throws", "try", "catch", "finally", "synchronized", "assert", "import",
            "package", "protected", "Exception", "Thread", "System", "instanceof", "var", "native", "volatile"}) {
            BENCH.due("the word " + word, Pattern.compile("\\b" + word + "\\b").matcher(code).find() ? 1 : 0, 0);
        }
        BENCH.due("a lambda", code.contains("->") || code.contains("::") ? 1 : 0, 0);
        Matcher method = Pattern.compile("(?m)^( {4}| {8})(?! )[^=;\n]*\\) \\{\n(?s:.*?)^\\1\\}$").matcher(code);
        int methods = 0;
        while (method.find()) {
            methods++;
            String body = method.group();
            BENCH.due(body.substring(0, body.indexOf('\n')).trim() + " is short", body.split("\n").length <= 60 ? 1 : 0, 1);
        }
        BENCH.due("methods were read", methods > 100 ? 1 : 0, 1);
    }
}
