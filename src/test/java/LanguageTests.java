import java.io.IOException;
import java.lang.reflect.Constructor;
import java.lang.reflect.Field;
import java.lang.reflect.Method;
import java.lang.reflect.Modifier;
import java.nio.file.Files;
import java.nio.file.Path;
import java.util.Arrays;
import java.util.HashSet;
import java.util.Set;
import java.util.TreeSet;
import java.util.regex.Matcher;
import java.util.regex.Pattern;

/** The face of the class, and those rules of LANGUAGE.md that can be seen from the text or from the class itself. */
public final class LanguageTests {
    private static final String[] FACE = {
        "int act(int,int,int)", "int bag(int,int,int,int)", "int barn(int)", "int call(int)",
        "int cheapest(long,long,int,int,int,int)", "int closed(boolean)", "long coloured(int)",
        "int copy(int,int,int,int,int)", "int dances(int,int)", "int draws(int)", "long element(int,int)",
        "int fault()", "int figure(int,int,int)", "int figureOf(int,int)", "int forgot(int,int)", "int frees(int)",
        "int holds(int)", "int image()", "int judge(int,int)", "int kept(int,long)", "int least(long,long,int)",
        "int lot(int,long,long)", "int made(long,long,long)", "long may(int,int,int)", "long now(int)",
        "long over(long,long,int)", "long repeated(int,int,int,int)", "int restore()", "int row(int,int,int)",
        "int same(int,int,int,boolean)", "int says(int,int)", "int seed(int)", "int set(int,int,long)",
        "int show(int,int)", "long side(long,long,int)", "int stand(int)", "int start(long,long)", "int status(int)",
        "long told(int,int,int)", "int trace(int)", "long undo()", "int undoes(long)"};

    private static final String[] NEVER = {
        "\\bthrow\\b", "\\bthrows\\b", "\\btry\\b", "\\bcatch\\b", "\\bsynchronized\\b", "\\bassert\\b", "->", "::",
        "Exact\\b", "\\bjava\\.(?!util\\.Arrays;)", "\\bHash(Map|Set)\\b", "\\bSystem\\.(?!arraycopy\\()", "@",
        "\\bequals\\(", "\\bhashCode\\b", "\\btoString\\b", "\\bMAX_VALUE\\b", "\\bMIN_VALUE\\b", "\\bpackage\\b"};

    private static int wrong = 0;

    private static void due(boolean holds, String what) {
        if (!holds) {
            wrong++;
            System.out.println("language: " + what);
        }
    }

    public static void main(String[] args) throws IOException {
        face();
        classesInside();
        text(Files.readString(Path.of("src/main/java/TwoRopes.java")));
        System.out.println(wrong == 0 ? "the language is kept to" : wrong + " rules are not kept to");
        System.exit(wrong == 0 ? 0 : 1);
    }

    private static String signature(Method method) {
        StringBuilder text = new StringBuilder(method.getReturnType() + " " + method.getName() + "(");
        for (Class<?> type : method.getParameterTypes()) {
            text.append(text.charAt(text.length() - 1) == '(' ? "" : ",").append(type);
        }
        return text.append(")").toString();
    }

    private static void face() {
        Set<String> found = new TreeSet<>();
        Set<String> names = new HashSet<>();
        for (Method method : TwoRopes.class.getDeclaredMethods()) {
            if (Modifier.isPublic(method.getModifiers())) {
                found.add(signature(method));
                names.add(method.getName());
            } else {
                due(Modifier.isPrivate(method.getModifiers()), method + " is neither public nor private");
            }
        }
        due(found.equals(new TreeSet<>(Arrays.asList(FACE))), "rule 1: the face is " + found);
        for (Class<?> type : allClasses()) {
            for (Method method : type.getDeclaredMethods()) {
                boolean isOfTheFace = type == TwoRopes.class && Modifier.isPublic(method.getModifiers());
                due(isOfTheFace || !names.contains(method.getName()), "rule 1: " + method + " bears a public one's name");
            }
        }
        Constructor<?>[] made = TwoRopes.class.getDeclaredConstructors();
        due(made.length == 1 && Modifier.isPublic(made[0].getModifiers()) && made[0].getParameterCount() == 0,
                "rule 1: the constructor");
        for (Field field : TwoRopes.class.getDeclaredFields()) {
            int how = field.getModifiers();
            due(field.getName().equals("NONE") ? Modifier.isPublic(how) : Modifier.isPrivate(how), "rule 1: " + field);
        }
        int how = TwoRopes.class.getModifiers();
        due(Modifier.isPublic(how) && Modifier.isFinal(how), "rule 1: the class is public and final");
    }

    private static Class<?>[] allClasses() {
        Class<?>[] inside = TwoRopes.class.getDeclaredClasses();
        Class<?>[] all = Arrays.copyOf(inside, inside.length + 1);
        all[inside.length] = TwoRopes.class;
        return all;
    }

    private static void classesInside() {
        Class<?>[] all = allClasses();
        due(all.length <= 12, "rule 11: " + all.length + " classes");
        for (Class<?> type : all) {
            int how = type.getModifiers();
            due(type == TwoRopes.class || Modifier.isStatic(how) && !Modifier.isPublic(how), "rule 2: " + type);
            int fields = 0;
            for (Field field : type.getDeclaredFields()) {
                boolean isStatic = Modifier.isStatic(field.getModifiers());
                due(!isStatic || Modifier.isFinal(field.getModifiers()), "rule 5: " + field);
                fields += isStatic ? 0 : 1;
            }
            due(fields <= 20, "rule 11: " + type + " has " + fields + " fields");
            for (Method method : type.getDeclaredMethods()) {
                due(method.getParameterCount() <= 7, "rule 11: " + method);
            }
        }
    }

    private static void text(String source) {
        String code = source.replaceAll("(?s)/\\*.*?\\*/", "").replaceAll("//[^\n]*", "");
        for (String sign : NEVER) {
            Matcher found = Pattern.compile(sign).matcher(code);
            due(!found.find(), "the text has " + sign);
        }
        for (int i = 0; i < source.length(); i++) {
            due(source.charAt(i) < 128, "rule 4: sign " + (int) source.charAt(i));
        }
        Matcher method = Pattern.compile("(?ms)^( {4}| {8})[a-z][^\n;=]*\\([^\n;]*\\) \\{\n.*?^\\1\\}").matcher(source);
        int methods = 0;
        while (method.find()) {
            methods++;
            String first = method.group().substring(0, method.group().indexOf('\n'));
            due(method.group().split("\n").length <= 60, "rule 11: too long: " + first);
        }
        due(methods > 100, "only " + methods + " methods were looked at");
    }
}
