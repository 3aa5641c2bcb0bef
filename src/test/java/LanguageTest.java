import java.io.IOException;
import java.lang.reflect.Constructor;
import java.lang.reflect.Field;
import java.lang.reflect.Method;
import java.lang.reflect.Modifier;
import java.nio.file.Files;
import java.nio.file.Path;
import java.util.ArrayList;
import java.util.List;
import java.util.Set;
import java.util.TreeSet;
import java.util.regex.Matcher;
import java.util.regex.Pattern;

/** The rules of ../shared/LANGUAGE.md that can be seen from outside, and the face of the document. */
final class LanguageTest {
    private static final Path SOURCE = Path.of("src", "main", "java", "DustReads.java");
    private static final String[] FACE = {
        "int row(int,int,int)", "int set(int,int,int)", "int copy(int,int,int,int,int)", "int drop(int)",
        "int feed(long,int)", "int library()", "int fault()", "int hours(int)", "int take(int,int)",
        "int change(int,int)", "int dusts(int)", "int undo()", "int spot(int,int)", "int fall(int,int,int)",
        "int ahead(int,int,int)", "int when(int,int,int)", "int who(int,int,int)", "int oneHand(int)", "int moved()",
        "int like(int,int)", "int hide(int)", "int learnt(int,int,int,int)", "int image(int)", "int restore(int)",
        "int kind(int)", "int as(int,int)", "int ask(int,int)", "int trace(int)", "int count(int)", "int status()",
    };
    private static final String[] FORBIDDEN = {
        "\\bthrow", "\\btry\\b", "\\bcatch\\b", "\\bfinally\\b", "\\bsynchronized\\b", "\\bassert\\b", "->", "::", "@",
        "\\bvar\\b", "\\bpackage\\b", "static \\{", "\\bequals\\b", "\\bhashCode\\b", "\\btoString\\b", "Exact\\b",
        "import (?!java\\.util\\.(Arrays|ArrayList|List);)", "\\bThread\\b", "\\bRandom\\b", "currentTime", "nanoTime",
        "[^\\x0a\\x20-\\x7e]",
    };

    public static void main(String[] args) throws IOException {
        faceIsTold();
        fieldsAndConstructors();
        classesInside();
        sourceIsPlain();
        methodsAreShort();
        Due.end("LanguageTest");
    }

    private static void faceIsTold() {
        Due.is("public and final", DustReads.class.getModifiers(), Modifier.PUBLIC | Modifier.FINAL);
        Set<String> due = new TreeSet<>(List.of(FACE));
        Set<String> names = new TreeSet<>();
        for (Method m : DustReads.class.getDeclaredMethods()) {
            if (Modifier.isPublic(m.getModifiers())) {
                Due.is("due: " + shape(m), due.remove(shape(m)) ? 1 : 0, 1);
                names.add(m.getName());
            }
        }
        Due.is("missing: " + due, due.size(), 0);
        for (Class<?> c : all()) {
            for (Method m : c.getDeclaredMethods()) {
                boolean face = c == DustReads.class && Modifier.isPublic(m.getModifiers());
                Due.is("a name twice: " + c + " " + m.getName(), !face && names.contains(m.getName()) ? 1 : 0, 0);
                Due.is("private, or inside: " + m,
                    face || c != DustReads.class || Modifier.isPrivate(m.getModifiers()) ? 1 : 0, 1);
                Due.is("parameters of " + m, Math.max(7, m.getParameterCount()), 7);
            }
        }
    }

    private static String shape(Method m) {
        StringBuilder text = new StringBuilder(m.getReturnType().getName() + " " + m.getName() + "(");
        for (int i = 0; i < m.getParameterCount(); i++) {
            text.append(i == 0 ? "" : ",").append(m.getParameterTypes()[i].getName());
        }
        return text + ")";
    }

    private static List<Class<?>> all() {
        List<Class<?>> classes = new ArrayList<>(List.of(DustReads.class.getDeclaredClasses()));
        classes.add(DustReads.class);
        return classes;
    }

    private static void fieldsAndConstructors() {
        Set<String> constants = new TreeSet<>(List.of("NONE", "BAD", "STATE", "FULL"));
        for (Field f : DustReads.class.getDeclaredFields()) {
            if (Modifier.isPublic(f.getModifiers())) {
                Due.is("public constant " + f.getName(), constants.remove(f.getName()) ? 1 : 0, 1);
            } else {
                Due.is("private " + f.getName(), Modifier.isPrivate(f.getModifiers()) ? 1 : 0, 1);
            }
        }
        Due.is("constants missing: " + constants, constants.size(), 0);
        Constructor<?>[] constructors = DustReads.class.getDeclaredConstructors();
        Due.is("one constructor", constructors.length, 1);
        Due.is("it is public", Modifier.isPublic(constructors[0].getModifiers()) ? 1 : 0, 1);
        for (Class<?> c : all()) {
            int own = 0;
            for (Field f : c.getDeclaredFields()) {
                boolean still = Modifier.isStatic(f.getModifiers());
                own += still ? 0 : 1;
                Due.is("static is final: " + f, still && !Modifier.isFinal(f.getModifiers()) ? 1 : 0, 0);
            }
            Due.is("some twenty fields: " + c, Math.max(20, own), 20);
        }
    }

    private static void classesInside() {
        Due.is("some twelve classes", Math.max(12, all().size()), 12);
        for (Class<?> c : DustReads.class.getDeclaredClasses()) {
            Due.is("static: " + c, Modifier.isStatic(c.getModifiers()) ? 1 : 0, 1);
            Due.is("not public: " + c, Modifier.isPublic(c.getModifiers()) ? 1 : 0, 0);
            Due.is("none deeper: " + c, c.getDeclaredClasses().length, 0);
        }
    }

    private static void sourceIsPlain() throws IOException {
        String code = Files.readString(SOURCE).replaceAll("(?s)/\\*.*?\\*/", "").replaceAll("//[^\n]*", "");
        for (String pattern : FORBIDDEN) {
            Due.is("forbidden: " + pattern, Pattern.compile(pattern).matcher(code).find() ? 1 : 0, 0);
        }
        Due.is("texts joined by +", Pattern.compile("\"\\s*\\+|\\+\\s*\"").matcher(code).find() ? 1 : 0, 0);
    }

    private static void methodsAreShort() throws IOException {
        List<String> lines = Files.readAllLines(SOURCE);
        Pattern head = Pattern.compile("( +)(?! |if|for|while|switch)[\\w\\[\\] ]+\\(.*\\) \\{");
        int found = 0;
        for (int at = 0; at < lines.size(); at++) {
            Matcher m = head.matcher(lines.get(at));
            if (m.matches()) {
                String end = m.group(1) + "}";
                int length = lines.subList(at, lines.size()).indexOf(end) + 1;
                Due.is("some sixty lines from " + (at + 1), length >= 3 && length <= 60 ? 1 : 0, 1);
                found++;
            }
        }
        Due.is("methods were found", found > 100 ? 1 : 0, 1);
    }
}
