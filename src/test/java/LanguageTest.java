import java.io.IOException;
import java.lang.reflect.Constructor;
import java.lang.reflect.Field;
import java.lang.reflect.Member;
import java.lang.reflect.Method;
import java.lang.reflect.Modifier;
import java.nio.file.Files;
import java.nio.file.Path;
import java.util.ArrayList;
import java.util.List;
import java.util.Set;
import java.util.TreeSet;
import java.util.regex.Matcher;
import java.util.regex.Pattern;

/** The rules of LANGUAGE.md that a look at the file and at the compiled class can tell. */
public final class LanguageTest {
    private static final Path FILE = Path.of("src/main/java/VariantBoard.java");
    private static final String FACE = "feed(int):int size(int,int):int define(int):int type(int,int,int):int "
            + "rule(int,int):int setup():int side(int):int hand(int,int,int):int castle(int,int,int,int,int,int):int "
            + "at(int):int moves(int):int move(int,int):int proof(int,int):int make(int):int back():int "
            + "attackers(int,int):long attacked(int):long status():int sequences(int,int):int text(int):int "
            + "told(int,int):int property(int,int):int digest():int image():int undo():int count(int):int";

    private static int wrong;

    public static void main(String[] args) throws IOException {
        List<String> lines = Files.readAllLines(FILE);
        words(lines);
        library(lines);
        face();
        insides();
        System.out.println(wrong == 0 ? "the language is kept to" : wrong + " rules are broken");
        if (wrong != 0) {
            System.exit(1);
        }
    }

    private static void broken(String rule, String what) {
        wrong++;
        System.out.println("rule " + rule + ": " + what);
    }

    private static String code(String line) {
        return line.replaceAll("\"[^\"]*\"", "\"\"").replaceAll("'[^']+'", "' '").replaceAll("//.*", "").replaceAll("/\\*\\*.*\\*/", "");
    }

    private static void words(List<String> lines) {
        Pattern no = Pattern.compile("\\b(throw|throws|try|catch|synchronized|assert|import|package|native|volatile"
                + "|Object|equals|hashCode|toString|instanceof|Thread|System)\\b|->|::|@");
        for (int i = 0; i < lines.size(); i++) {
            Matcher m = no.matcher(code(lines.get(i)));
            if (m.find()) {
                broken("2, 4, 6 or 13", "line " + (i + 1) + " has " + m.group());
            }
            if (!lines.get(i).chars().allMatch(c -> c >= 32 && c < 127)) {
                broken("3", "line " + (i + 1) + " has a strange sign");
            }
        }
    }

    /** Every name behind a capital word with a point must be one that the class has itself or rule 4 lists. */
    private static void library(List<String> lines) {
        Set<String> allowed = Set.of("Integer.bitCount", "Long.bitCount", "Long.MIN_VALUE", "Math.max", "Math.min");
        Pattern use = Pattern.compile("\\b(Integer|Long|Math|Character|String|Arrays)\\.(\\w+)");
        for (String line : lines) {
            Matcher m = use.matcher(code(line));
            while (m.find()) {
                if (!allowed.contains(m.group())) {
                    broken("4", m.group());
                }
            }
        }
    }

    private static void face() {
        Set<String> want = new TreeSet<>(List.of(FACE.split(" ")));
        Set<String> names = new TreeSet<>();
        for (String method : want) {
            names.add(method.substring(0, method.indexOf('(')));
        }
        for (Method method : VariantBoard.class.getDeclaredMethods()) {
            List<String> types = new ArrayList<>();
            for (Class<?> type : method.getParameterTypes()) {
                types.add(type.getSimpleName());
            }
            String face = method.getName() + "(" + String.join(",", types) + "):" + method.getReturnType().getSimpleName();
            boolean isPublic = Modifier.isPublic(method.getModifiers());
            if (isPublic && !want.remove(face) || !isPublic && !Modifier.isPrivate(method.getModifiers())) {
                broken("1", "a member that is not of the face: " + face);
            }
            if (!isPublic && names.contains(method.getName())) {
                broken("1", "a private method with the name of a public one: " + face);
            }
        }
        for (String missing : want) {
            broken("1", "missing: " + missing);
        }
        Set<String> constants = new TreeSet<>(List.of("NONE", "BAD", "STATE", "FULL", "NO"));
        for (Field field : VariantBoard.class.getDeclaredFields()) {
            if (!Modifier.isPrivate(field.getModifiers()) && !constants.remove(field.getName())) {
                broken("1", "a field that is not of the face: " + field);
            }
        }
        Constructor<?>[] constructors = VariantBoard.class.getDeclaredConstructors();
        if (constructors.length != 1 || !Modifier.isPublic(constructors[0].getModifiers())
                || !Modifier.isFinal(VariantBoard.class.getModifiers()) || !constants.isEmpty()) {
            broken("1", "the class, its constructor or its constants");
        }
    }

    private static void insides() {
        List<Class<?>> classes = new ArrayList<>(List.of(VariantBoard.class.getDeclaredClasses()));
        classes.add(VariantBoard.class);
        if (classes.size() > 12) {
            broken("11", classes.size() + " classes");
        }
        for (Class<?> c : classes) {
            int fields = 0;
            for (Field field : c.getDeclaredFields()) {
                fields += isStatic(field) ? 0 : 1;
                if (isStatic(field) && !Modifier.isFinal(field.getModifiers())) {
                    broken("5", "a static field that is not final: " + field);
                }
            }
            if (fields > 20) {
                broken("11", fields + " fields in " + c);
            }
            for (Method method : c.getDeclaredMethods()) {
                if (method.getParameterCount() > 7) {
                    broken("11", "more than seven parameters: " + method);
                }
            }
            if (c != VariantBoard.class && !Modifier.isStatic(c.getModifiers())) {
                broken("2", "an inner class: " + c);
            }
        }
    }

    private static boolean isStatic(Member member) {
        return Modifier.isStatic(member.getModifiers());
    }
}
