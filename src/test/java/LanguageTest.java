import java.io.IOException;
import java.lang.reflect.Executable;
import java.lang.reflect.Field;
import java.lang.reflect.Method;
import java.lang.reflect.Modifier;
import java.nio.file.Files;
import java.nio.file.Path;
import java.util.ArrayList;
import java.util.Collections;
import java.util.HashSet;
import java.util.List;
import java.util.Set;
import java.util.regex.Matcher;
import java.util.regex.Pattern;

/** The rules of LANGUAGE.md that can be seen from outside: the face, the classes inside, the words of the source. */
public final class LanguageTest {

    private static final String[] FACE = {
        "int term(int,int,int) IllegalArgumentException IndexOutOfBoundsException",
        "int put(int,int,int) IndexOutOfBoundsException IllegalArgumentException",
        "String text(int) IndexOutOfBoundsException",
        "int ofTerm(int,int) IndexOutOfBoundsException IllegalArgumentException",
        "int part(int,int) IndexOutOfBoundsException",
        "int fill(int,int) IllegalArgumentException IndexOutOfBoundsException",
        "int unfill(int) IllegalArgumentException NoSuchElementException",
        "String fills()",
        "int once(int) IndexOutOfBoundsException",
        "int deep(int) IndexOutOfBoundsException IllegalStateException",
        "String rings()",
        "int equal(int,int) IndexOutOfBoundsException IllegalStateException",
        "int unlike(int,int) IndexOutOfBoundsException IllegalStateException",
        "int step()",
        "int steps(int) IllegalArgumentException",
        "int clear()",
        "String equation(int) IndexOutOfBoundsException",
        "String solved(int) IllegalArgumentException IllegalStateException",
        "int stays(int) IndexOutOfBoundsException IllegalStateException",
        "String unify(int,int) IndexOutOfBoundsException",
        "String why(int,int) IndexOutOfBoundsException",
        "String match(int,int) IndexOutOfBoundsException",
        "int cases(int,int,boolean) IndexOutOfBoundsException",
        "boolean isTurned(int,int) IndexOutOfBoundsException",
        "boolean isEndless(int,int) IndexOutOfBoundsException",
        "int ways(int,int) IndexOutOfBoundsException",
        "String way(int,int,int) IndexOutOfBoundsException NoSuchElementException",
        "int common(int,int) IndexOutOfBoundsException",
        "int lay(int) IndexOutOfBoundsException IllegalStateException",
        "int lift(int) IndexOutOfBoundsException",
        "int shelf(int) IndexOutOfBoundsException",
        "int ask(int,int) IndexOutOfBoundsException IllegalArgumentException",
        "int commonOfAll() NoSuchElementException",
        "int undo() IllegalStateException",
        "int blank()",
        "int knock()",
        "int house(int) IllegalArgumentException",
        "boolean isSound()",
        "long digest()",
    };

    private static int wrong = 0;

    private static void must(boolean holds, String what) {
        if (!holds) {
            wrong++;
            System.out.println("not so: " + what);
        }
    }

    public static void main(String[] args) throws IOException {
        face();
        classesInside();
        source(Files.readString(Path.of("src/main/java/Matchmakingdesk.java")));
        System.out.println(wrong == 0 ? "the rules are kept" : wrong + " wrong");
        System.exit(wrong == 0 ? 0 : 1);
    }

    private static String told(Method method) {
        List<String> types = new ArrayList<>();
        for (Class<?> type : method.getParameterTypes()) {
            types.add(type.getSimpleName());
        }
        StringBuilder told = new StringBuilder(method.getReturnType().getSimpleName());
        told.append(' ').append(method.getName()).append('(').append(String.join(",", types)).append(')');
        for (Class<?> thrown : method.getExceptionTypes()) {
            told.append(' ').append(thrown.getSimpleName());
        }
        return told.toString();
    }

    private static void face() {
        Class<?> desk = Matchmakingdesk.class;
        must(Modifier.isPublic(desk.getModifiers()) && Modifier.isFinal(desk.getModifiers()), "public and final");
        must(desk.getDeclaredConstructors().length == 1 && desk.getConstructors().length == 1, "one constructor");
        Set<String> open = new HashSet<>();
        Set<String> hidden = new HashSet<>();
        for (Method method : desk.getDeclaredMethods()) {
            boolean isPublic = Modifier.isPublic(method.getModifiers());
            must(isPublic || Modifier.isPrivate(method.getModifiers()), method.getName() + " is public or private");
            (isPublic ? open : hidden).add(isPublic ? told(method) : method.getName());
        }
        must(open.equals(Set.of(FACE)), "the face is that of the document: " + open);
        for (String name : faceNames()) {
            must(!hidden.contains(name), "no private method is named " + name);
        }
        fields(desk);
    }

    private static Set<String> faceNames() {
        Set<String> names = new HashSet<>();
        for (String each : FACE) {
            names.add(each.substring(each.indexOf(' ') + 1, each.indexOf('(')));
        }
        return names;
    }

    private static void fields(Class<?> where) {
        int own = 0;
        for (Field field : where.getDeclaredFields()) {
            must(Modifier.isPrivate(field.getModifiers()), field + " is private");
            if (Modifier.isStatic(field.getModifiers())) {
                must(Modifier.isFinal(field.getModifiers()), field + " is final");
            } else {
                own++;
            }
        }
        must(own <= 20, where + " has at most 20 fields");
    }

    private static void classesInside() {
        Class<?>[] inside = Matchmakingdesk.class.getDeclaredClasses();
        must(inside.length < 12, "at most 12 classes");
        for (Class<?> each : inside) {
            must(Modifier.isStatic(each.getModifiers()) && Modifier.isPrivate(each.getModifiers()), each + " is private and static");
            fields(each);
            List<Executable> all = new ArrayList<>();
            Collections.addAll(all, each.getDeclaredMethods());
            Collections.addAll(all, each.getDeclaredConstructors());
            for (Executable one : all) {
                must(Modifier.isPrivate(one.getModifiers()), one + " is private");
                must(one.getParameterCount() <= 7, one + " takes at most 7");
                must(!faceNames().contains(one.getName()), one + " is not named as the face");
            }
        }
    }

    private static void source(String text) {
        String bare = text.replaceAll("(?s)/\\*.*?\\*/", "").replaceAll("//[^\n]*", "").replaceAll("\"[^\"\n]*\"", "\"\"");
        for (String word : new String[] {"try", "catch", "finally", "synchronized", "assert", "instanceof", "var", "record",
            "enum", "interface", "double", "float", "equals", "hashCode", "toString\\(\\) *\\{", "package"}) {
            must(!Pattern.compile("\\b" + word + "\\b").matcher(bare).find(), "without " + word);
        }
        must(!bare.contains("->") && !bare.contains("::"), "without lambdas");
        must(!Pattern.compile("\"\" *\\+|\\+ *\"\"").matcher(bare).find(), "texts are not joined by +");
        Matcher imports = Pattern.compile("import ([\\w.]+);").matcher(bare);
        while (imports.find()) {
            must(Set.of("java.util.Arrays", "java.util.NoSuchElementException").contains(imports.group(1)), imports.group());
        }
        Matcher thrown = Pattern.compile("throw (\\w+ \\w+\\([^;]*);").matcher(bare);
        while (thrown.find()) {
            must(thrown.group(1).matches("new (IllegalState|IllegalArgument|IndexOutOfBounds|NoSuchElement)Exception\\(\"\"\\)"),
                    thrown.group());
        }
        for (char sign : text.toCharArray()) {
            must(sign < 128, "plain letters alone");
        }
        methodLengths(text.split("\n"));
    }

    private static void methodLengths(String[] lines) {
        int start = -1;
        for (int i = 0; i < lines.length; i++) {
            if (lines[i].matches(" {4,8}(public|private) [^=;]*\\{") && !lines[i].contains(" class ")) {
                start = i;
            } else if (lines[i].matches(" {4,8}\\}") && start >= 0) {
                must(i - start < 60, "at most 60 lines: " + lines[start].trim());
            }
        }
    }
}
