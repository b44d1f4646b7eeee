import java.io.IOException;
import java.lang.reflect.Constructor;
import java.lang.reflect.Field;
import java.lang.reflect.Method;
import java.lang.reflect.Modifier;
import java.nio.charset.StandardCharsets;
import java.nio.file.Files;
import java.nio.file.Path;
import java.util.ArrayList;
import java.util.Collections;
import java.util.HashSet;
import java.util.List;
import java.util.Set;
import java.util.regex.Matcher;
import java.util.regex.Pattern;

/** The public face, and those rules of LANGUAGE.md that can be read off the source or the classes. */
public final class LanguageTests {
    private static final Path SOURCE = Path.of("src/main/java/StileWantsCompliment.java");

    private static final String[] FACE = {
        "int letter(int)", "int county()", "int stile(int,int)", "int walker(int,int)", "int last(int,int)",
        "int says(int,int,int)", "int learns(int,int)", "int forgets(int)", "int stands(int,int)",
        "int turn(int,int,int)", "int days(int)", "int pleasesThen(int,int)", "int openThen(int,int)",
        "int way(int,int,int)", "int shy()", "int when(int,int)", "int store(int,int)", "int learn(int)",
        "int gate(int)", "int needed(int,int)", "int say(int,int)", "int spent(int)", "int compared(int)",
        "int tour(int,int)", "int meet(int)", "int two(int,int,int)", "long hoarse(int,int,int,int)",
        "long mean(int)", "int whatIs(int,int)", "int row(int)", "int judge()", "int clear()",
        "int lots(int,int,int)", "int image()", "int on()", "int count(int)"};

    /** What the class has no need of, and the rules forbid. */
    private static final String[] UNWANTED = {
        "import ", "package ", "->", "::", "Exact", "try", "catch", "finally", "throw", "synchronized", "assert",
        "equals", "hashCode", "toString", "Random", "System\\.", "Thread", "@", "Object", "static \\{", "%s",
        "float ", "double ", "instanceof", "native", "volatile", "transient", "record "};

    private static int wrong = 0;

    private static void must(boolean holds, String rule) {
        if (!holds) {
            wrong++;
            System.out.println(rule);
        }
    }

    private static String signature(Method method) {
        StringBuilder all = new StringBuilder();
        all.append(method.getReturnType().getSimpleName()).append(' ').append(method.getName()).append('(');
        String between = "";
        for (Class<?> type : method.getParameterTypes()) {
            all.append(between).append(type.getSimpleName());
            between = ",";
        }
        return all.append(')').toString();
    }

    private static Set<String> faceNames() {
        Set<String> names = new HashSet<>();
        for (String signature : FACE) {
            names.add(signature.substring(signature.indexOf(' ') + 1, signature.indexOf('(')));
        }
        return names;
    }

    private static void face() {
        Class<?> type = StileWantsCompliment.class;
        List<String> has = new ArrayList<>();
        for (Method method : type.getDeclaredMethods()) {
            if (Modifier.isPublic(method.getModifiers())) {
                has.add(signature(method));
                must(!Modifier.isStatic(method.getModifiers()), "static: " + method);
            } else if (!method.isSynthetic()) {
                must(Modifier.isPrivate(method.getModifiers()), "rule 1, not private: " + method);
                must(!faceNames().contains(method.getName()), "rule 1, bears a public name: " + method);
            }
        }
        List<String> wants = new ArrayList<>(List.of(FACE));
        Collections.sort(has);
        Collections.sort(wants);
        must(has.equals(wants), "the face is " + has + ", due is " + wants);
        must(Modifier.isPublic(type.getModifiers()) && Modifier.isFinal(type.getModifiers()), "public final class");
        for (Constructor<?> constructor : type.getDeclaredConstructors()) {
            must(constructor.getParameterCount() == 0 && Modifier.isPublic(constructor.getModifiers()),
                    "constructor: " + constructor);
        }
        must(type.getDeclaredConstructors().length == 1, "one constructor");
        for (Field field : type.getDeclaredFields()) {
            must(Modifier.isPrivate(field.getModifiers()), "rule 1, field not private: " + field);
        }
    }

    private static void classesInside(Class<?> type) {
        int fields = 0;
        for (Field field : type.getDeclaredFields()) {
            boolean fixed = Modifier.isStatic(field.getModifiers());
            must(!fixed || Modifier.isFinal(field.getModifiers()), "rule 5, static and not final: " + field);
            fields += fixed ? 0 : 1;
        }
        must(fields <= 20, "rule 11, fields of " + type);
        for (Method method : type.getDeclaredMethods()) {
            must(method.getParameterCount() <= 7, "rule 11, parameters of " + method);
            must(type == StileWantsCompliment.class || !faceNames().contains(method.getName()),
                    "rule 1, bears a public name: " + method);
        }
        for (Class<?> inner : type.getDeclaredClasses()) {
            must(Modifier.isStatic(inner.getModifiers()) && !Modifier.isPublic(inner.getModifiers()),
                    "rule 2: " + inner);
            classesInside(inner);
        }
    }

    private static String withoutComments(String source) {
        return source.replaceAll("(?s)/\\*.*?\\*/", " ").replaceAll("//[^\\n]*", " ");
    }

    private static void words(String source) {
        for (String word : UNWANTED) {
            must(!Pattern.compile(word).matcher(source).find(), "has '" + word + "'");
        }
        Matcher library = Pattern.compile("\\b(Math|Integer|Long)\\.(\\w+)").matcher(source);
        Set<String> known = Set.of("compare", "max", "min", "abs", "bitCount", "floorDiv", "floorMod");
        while (library.find()) {
            must(known.contains(library.group(2)), "rule 4: " + library.group());
        }
        for (char c : source.toCharArray()) {
            must(c < 128, "a sign above 127");
        }
    }

    /** Methods of some sixty lines at most: measured from one line with a body's brace to the closing one. */
    private static void lengths(List<String> lines) {
        for (int i = 0; i < lines.size(); i++) {
            Matcher head = Pattern.compile("^( +)[\\w\\[\\] ]+\\([^;]*\\) \\{$").matcher(lines.get(i));
            if (head.matches()) {
                int end = i;
                while (end < lines.size() && !lines.get(end).equals(head.group(1) + "}")) {
                    end++;
                }
                must(end - i < 60, "rule 11, long: " + lines.get(i).trim());
            }
        }
    }

    /** All calls of a run live in one room: what there is to make is made with the object. */
    private static void onlyConstructorsMake(List<String> lines) {
        String head = "";
        for (String line : lines) {
            if (line.matches("^( {4}| {8})[\\w\\[\\] ]+\\([^;]*\\) \\{$")) {
                head = line.trim();
            }
            boolean makes = Pattern.compile("\\bnew\\b").matcher(line).find();
            must(!makes || head.matches("(public )?[A-Z]\\w*\\(.*"), "rule 12, made in a call: " + head);
        }
    }

    public static void main(String[] args) throws IOException {
        String source = Files.readString(SOURCE, StandardCharsets.UTF_8);
        face();
        classesInside(StileWantsCompliment.class);
        words(withoutComments(source));
        lengths(List.of(source.split("\n")));
        onlyConstructorsMake(List.of(withoutComments(source).split("\n")));
        System.out.println(wrong == 0 ? "the language is kept to" : wrong + " places are not as the rules want");
        if (wrong != 0) {
            System.exit(1);
        }
    }
}
