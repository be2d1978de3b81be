import java.io.IOException;
import java.lang.reflect.Constructor;
import java.lang.reflect.Field;
import java.lang.reflect.Method;
import java.lang.reflect.Modifier;
import java.nio.file.Files;
import java.nio.file.Path;
import java.util.ArrayList;
import java.util.Arrays;
import java.util.List;
import java.util.TreeSet;
import java.util.regex.Matcher;
import java.util.regex.Pattern;

/** Those rules of LANGUAGE.md that a look at the source and at the compiled class can tell. */
public final class LanguageTest {
    private static final Due due = new Due();
    private static final String[] FACE = {
        "int letter(int)", "int blank()", "int fault()", "int sets()", "int set(int,int)", "int as(int,int)",
        "int sound(int,int,int)", "int law(int,int,int,int)", "int strange(int,int)", "int say(int,int,int)",
        "int line(int,int,int,int)", "int cost(int,int)", "int put(int,int,int,int)", "int copy(int)",
        "int take(int)", "int change(int,int)", "int swap(int,int)", "int see(int,int,boolean)", "int forget()",
        "int drawn(int,int,int)", "int image()", "int restore()", "int count(int)", "long digest()"};

    public static void main(String[] args) throws IOException {
        String source = Files.readString(Path.of("src/main/java/SoundLaws.java"));
        face();
        namesOfPrivateMethods();
        classesInside();
        signs(source);
        words(bare(source));
        rows(bare(source));
        lengths(source);
        due.end();
    }

    private static List<Class<?>> classes() {
        List<Class<?>> all = new ArrayList<>(List.of(SoundLaws.class));
        all.addAll(Arrays.asList(SoundLaws.class.getDeclaredClasses()));
        return all;
    }

    private static void face() {
        TreeSet<String> methods = new TreeSet<>();
        for (Method method : SoundLaws.class.getDeclaredMethods()) {
            boolean open = Modifier.isPublic(method.getModifiers());
            due.hold("rule 1: " + method + " is public or private", open || Modifier.isPrivate(method.getModifiers()));
            String types = Arrays.toString(method.getParameterTypes()).replaceAll("[\\[\\] ]", "");
            if (open) methods.add(method.getReturnType() + " " + method.getName() + "(" + types + ")");
        }
        due.hold("rule 1: the methods " + methods, methods.equals(new TreeSet<>(List.of(FACE))));
        TreeSet<String> constants = new TreeSet<>();
        for (Field field : SoundLaws.class.getDeclaredFields()) {
            boolean open = Modifier.isPublic(field.getModifiers());
            due.hold("rule 1: " + field + " is public or private", open || Modifier.isPrivate(field.getModifiers()));
            if (open) constants.add(field.getName());
        }
        List<String> want = List.of("FULL", "NONE", "OUTSIDE", "STATE", "UNKNOWN");
        due.hold("rule 1: the constants " + constants, new ArrayList<>(constants).equals(want));
        Constructor<?>[] made = SoundLaws.class.getDeclaredConstructors();
        due.hold("rule 1: one constructor", made.length == 1 && made[0].getParameterCount() == 0);
        due.hold("rule 1: public and final", SoundLaws.class.getModifiers() == (Modifier.PUBLIC | Modifier.FINAL));
    }

    private static void namesOfPrivateMethods() {
        TreeSet<String> open = new TreeSet<>();
        for (String method : FACE) open.add(method.substring(method.indexOf(' ') + 1, method.indexOf('(')));
        for (Class<?> one : classes()) {
            for (Method method : one.getDeclaredMethods()) {
                boolean ofFace = one == SoundLaws.class && Modifier.isPublic(method.getModifiers());
                due.hold("rule 1: the name of " + method, ofFace || !open.contains(method.getName()));
                due.hold("rule 11: parameters of " + method, method.getParameterCount() <= 7);
            }
        }
    }

    private static void classesInside() {
        due.hold("rule 11: classes", classes().size() <= 12);
        for (Class<?> one : classes()) {
            int fields = 0;
            for (Field field : one.getDeclaredFields()) {
                int modifiers = field.getModifiers();
                if (!Modifier.isStatic(modifiers)) fields++;
                due.hold("rule 5: " + field, !Modifier.isStatic(modifiers) || Modifier.isFinal(modifiers));
            }
            due.hold("rule 11: fields of " + one, fields <= 20);
            due.hold("rule 2: " + one + " is static", one == SoundLaws.class || Modifier.isStatic(one.getModifiers()));
            due.hold("rule 2: " + one + " has none inside", one == SoundLaws.class || one.getDeclaredClasses().length == 0);
        }
    }

    private static void signs(String source) {
        boolean plain = true;
        for (char sign : source.toCharArray()) plain &= sign == '\n' || sign >= ' ' && sign < 127;
        due.hold("rule 4: only plain signs", plain);
    }

    /* The source without its comments and texts. */
    private static String bare(String source) {
        String code = source.replaceAll("(?s)/\\*.*?\\*/", " ").replaceAll("//[^\n]*", " ");
        return code.replaceAll("\"[^\"\n]*\"", "\"\"").replaceAll("'[^'\n]*'", "' '");
    }

    private static void words(String code) {
        String[] never = {"throw", "throws", "try", "catch", "finally", "synchronized", "assert", "package", "transient",
            "volatile", "native", "equals", "hashCode", "toString", "System\\.(?!arraycopy)", "Thread", "Random",
            "\\w+Exact", "->", "::", "protected", "var"};
        for (String word : never) {
            String edge = Character.isLetter(word.charAt(0)) ? "\\b" : "";
            due.hold("rules 4 and 6: no " + word, !Pattern.compile(edge + word + edge).matcher(code).find());
        }
        due.hold("rule 10: no joining by +", !Pattern.compile("\"\\s*\\+|\\+\\s*\"").matcher(code).find());
        Matcher imports = Pattern.compile("import\\s+([\\w.*]+)\\s*;").matcher(code);
        while (imports.find()) {
            String name = imports.group(1);
            due.hold("rule 4: import " + name, name.matches("java\\.util\\.(Arrays|ArrayList|List|Iterator)"));
        }
    }

    /* All calls of a run share one room: what is made is made with the object, as a field. */
    private static void rows(String code) {
        for (String line : code.split("\n")) {
            boolean makes = Pattern.compile("\\bnew\\b").matcher(line).find();
            due.hold("rule 12: " + line.trim(), !makes || line.matches(" +(private )?final .*"));
        }
    }

    /* By the layout of this project a method ends with a brace that stands under its first letter. */
    private static void lengths(String source) {
        Pattern method = Pattern.compile("(?m)^( +)(?!class|switch|for|if|while)[^\n=;]*\\([^\n;]*\\) \\{\n(?s:.*?)^\\1\\}");
        Matcher found = method.matcher(source);
        int methods = 0;
        while (found.find()) {
            methods++;
            due.hold("rule 11: length of" + found.group().lines().findFirst().orElse(""), found.group().lines().count() <= 60);
        }
        due.hold("rule 11: methods are found", methods > 60);
    }
}
