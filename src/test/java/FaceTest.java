import java.io.IOException;
import java.lang.reflect.Constructor;
import java.lang.reflect.Field;
import java.lang.reflect.Method;
import java.lang.reflect.Modifier;
import java.nio.file.Files;
import java.nio.file.Path;
import java.util.Arrays;
import java.util.HashSet;
import java.util.Set;
import java.util.TreeSet;
import java.util.regex.Matcher;
import java.util.regex.Pattern;

/** The document's face, and those rules of LANGUAGE.md that can be read from the class and its source. */
public final class FaceTest {
    private static final String[] FACE = {
        "sort(2)", "add(5)", "drop(1)", "mark(2)", "cls(1)", "grow(2)", "best(1)", "cut(3)", "price(2)", "folds(3)",
        "remove(0)", "tree(2)", "node(3)", "share(3)", "say(5)", "said(0)", "vote(4)", "voices(0)", "rule(4)", "near(5)",
        "turned(1)", "count(1)"
    };
    private static final String[] FORBIDDEN = {
        "\\bthrow\\b", "\\bthrows\\b", "\\btry\\b", "\\bcatch\\b", "\\bsynchronized\\b", "\\bassert\\b", "->", "::",
        "\\w+Exact\\b", "\\bpackage\\b", "\\bimport\\b", "\\bhashCode\\b", "\\btoString\\b",
        "\\bThread\\b", "\\bRandom\\b", "\\bSystem\\.(?!arraycopy)", "\\bdouble\\b", "\\bfloat\\b"
    };
    private static int wrong = 0;

    private static void check(boolean holds, String what) {
        if (!holds) {
            wrong++;
            System.out.println("not so: " + what);
        }
    }

    private static void checkFace() {
        check(Modifier.isPublic(AskTree.class.getModifiers()), "the class is public");
        check(Modifier.isFinal(AskTree.class.getModifiers()), "the class is final");
        Constructor<?>[] made = AskTree.class.getDeclaredConstructors();
        check(made.length == 1 && Modifier.isPublic(made[0].getModifiers()), "one public constructor");
        check(made[0].getParameterCount() == 0, "the constructor takes nothing");
        Set<String> face = new TreeSet<>();
        Set<String> names = new HashSet<>();
        for (String f : FACE) names.add(f.substring(0, f.indexOf('(')));
        for (Method m : AskTree.class.getDeclaredMethods()) {
            int mods = m.getModifiers();
            if (Modifier.isPublic(mods)) {
                face.add(m.getName() + "(" + m.getParameterCount() + ")");
                check(m.getReturnType() == int.class && !Modifier.isStatic(mods), m.getName() + " answers an int");
            } else {
                check(Modifier.isPrivate(mods), m.getName() + " is private");
                check(!names.contains(m.getName()), "no private method is called " + m.getName());
            }
        }
        check(face.equals(new TreeSet<>(Arrays.asList(FACE))), "the public methods are those of the document: " + face);
    }

    private static void checkFields() {
        Set<String> constants = new TreeSet<>();
        for (Field f : AskTree.class.getDeclaredFields()) {
            int mods = f.getModifiers();
            if (Modifier.isPublic(mods)) constants.add(f.getName());
            else check(Modifier.isPrivate(mods), f.getName() + " is private");
            if (Modifier.isStatic(mods)) check(Modifier.isFinal(mods), f.getName() + " is final");
        }
        check(constants.equals(new TreeSet<>(Arrays.asList("NONE", "MANY", "GAPS", "FULL"))), "the constants: " + constants);
        check(AskTree.NONE == -1 && AskTree.MANY == -2 && AskTree.GAPS == -3 && AskTree.FULL == -4, "their numbers");
    }

    private static void checkNested() {
        Class<?>[] inside = AskTree.class.getDeclaredClasses();
        check(inside.length <= 11, "at most some twelve classes");
        for (Class<?> c : inside) {
            check(Modifier.isStatic(c.getModifiers()), c.getName() + " is static");
            check(!Modifier.isPublic(c.getModifiers()) && !Modifier.isProtected(c.getModifiers()), c.getName() + " is inside");
            int fields = 0;
            for (Field f : c.getDeclaredFields()) if (!Modifier.isStatic(f.getModifiers())) fields++;
            check(fields <= 20, c.getName() + " has at most twenty fields");
            for (Method m : c.getDeclaredMethods()) {
                check(m.getParameterCount() <= 7, m.getName() + " takes at most seven");
                for (String f : FACE) check(!f.startsWith(m.getName() + "("), m.getName() + " is no public name");
            }
        }
    }

    private static void checkSource() throws IOException {
        String source = Files.readString(Path.of("src/main/java/AskTree.java"));
        for (int i = 0; i < source.length(); i++) {
            if (source.charAt(i) > 127) {
                check(false, "plain signs alone");
                break;
            }
        }
        String code = source.replaceAll("(?s)/\\*.*?\\*/", "").replaceAll("//[^\n]*", "");
        for (String word : FORBIDDEN) {
            Matcher found = Pattern.compile(word).matcher(code);
            check(!found.find(), "the source has no " + word);
        }
        int start = -1;
        String[] lines = source.split("\n");
        for (int i = 0; i < lines.length; i++) {
            boolean opens = lines[i].matches(" {4,8}\\w.*\\) \\{") && !lines[i].matches(" +(if|for|while|switch|else|do)\\b.*");
            if (opens) start = i;
            boolean closes = lines[i].equals("    }") || lines[i].equals("        }");
            if (closes && start >= 0) {
                check(i - start < 60, "the method at line " + (start + 1) + " is short");
                if (lines[i].indexOf('}') == lines[start].length() - lines[start].stripLeading().length()) start = -1;
            }
        }
    }

    /** Rule 8: what calls itself is private. */
    private static void checkRecursion() throws IOException {
        String source = Files.readString(Path.of("src/main/java/AskTree.java"));
        Pattern method = Pattern.compile("(?ms)^( {4}| {8})((?:\\w[\\w\\[\\]]* )+)(\\w+)\\([^)]*\\) \\{\n(.*?)^\\1\\}");
        Matcher found = method.matcher(source);
        int methods = 0, callThemselves = 0;
        for (int from = 0; found.find(from); from = found.start(4)) {
            methods++;
            String name = found.group(3);
            boolean callsItself = Pattern.compile("(?<![.\\w])" + name + "\\(").matcher(found.group(4)).find();
            if (callsItself) callThemselves++;
            check(!callsItself || found.group(2).contains("private "), name + " calls itself and is private");
        }
        check(methods > 60 && callThemselves == 3, "all methods are looked at: " + methods + ", " + callThemselves);
    }

    public static void main(String[] args) throws IOException {
        checkFace();
        checkRecursion();
        checkFields();
        checkNested();
        checkSource();
        System.out.println(wrong == 0 ? "the face is as the document says" : wrong + " things are not so");
        if (wrong != 0) System.exit(1);
    }
}
