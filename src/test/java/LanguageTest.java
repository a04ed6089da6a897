import java.io.IOException;
import java.lang.reflect.Method;
import java.lang.reflect.Modifier;
import java.nio.file.Files;
import java.nio.file.Path;
import java.util.Set;
import java.util.TreeSet;
import java.util.regex.Matcher;
import java.util.regex.Pattern;

/** Rules of LANGUAGE.md that can be seen in the text of the program or by reflection. */
public final class LanguageTest {
    private static final String[] RULED_OUT = {
        "\\b(throw|throws|try|catch|finally|synchronized|assert|import|package)\\b",
        "\\b(protected|native|volatile|transient|strictfp)\\b",
        "->", "::", "\\bstatic\\s*\\{", "\\bObject\\b", "\\bhashCode\\b", "\\btoString\\b",
        "Exact\\b", "\\bSystem\\.(?!arraycopy\\b)", "\\bstatic\\s+(?!final|class|\\w+\\s+\\w+\\()",
    };
    private static final Set<String> FACE = Set.of("give", "back", "number", "copy", "move", "narrow", "look", "lay",
            "block", "sweep", "step", "end", "told", "page", "range", "undo", "count");
    private static final int LONGEST_METHOD = 60, MOST_FIELDS = 20, MOST_CLASSES = 12, MOST_PARAMETERS = 7;

    private static int wrong = 0;

    private static void fault(String text) {
        wrong++;
        System.out.println(text);
    }

    public static void main(String[] args) throws IOException {
        String text = Files.readString(Path.of("src/main/java/PointerSweep.java"));
        String code = text.replaceAll("(?s)/\\*.*?\\*/", "").replaceAll("//[^\n]*", "");
        for (String rule : RULED_OUT) {
            Matcher m = Pattern.compile(rule).matcher(code);
            if (m.find()) {
                fault("ruled out: " + m.group());
            }
        }
        lookAtFace();
        lookAtClasses();
        lookAtLengths(text);
        System.out.println(wrong == 0 ? "language: no fault seen" : wrong + " faults");
        if (wrong != 0) {
            System.exit(1);
        }
    }

    private static void lookAtFace() {
        Set<String> names = new TreeSet<>();
        for (Method m : PointerSweep.class.getDeclaredMethods()) {
            boolean open = Modifier.isPublic(m.getModifiers());
            if (open) {
                names.add(m.getName());
            }
            if (open != FACE.contains(m.getName()) || !open && !Modifier.isPrivate(m.getModifiers())) {
                fault("a method that is not of the face: " + m);
            }
            if (open && (m.getReturnType() != int.class || Modifier.isStatic(m.getModifiers()))) {
                fault("another face: " + m);
            }
        }
        if (!names.equals(new TreeSet<>(FACE))) {
            fault("the public methods are " + names);
        }
        if (PointerSweep.class.getFields().length != 4 || !Modifier.isFinal(PointerSweep.class.getModifiers())) {
            fault("other constants, or a class that is not final");
        }
    }

    private static void lookAtClasses() {
        Class<?>[] inside = PointerSweep.class.getDeclaredClasses();
        if (inside.length > MOST_CLASSES) {
            fault("too many classes");
        }
        lookAtClass(PointerSweep.class);
        for (Class<?> c : inside) {
            if (!Modifier.isStatic(c.getModifiers())) {
                fault("not static: " + c);
            }
            lookAtClass(c);
        }
    }

    private static void lookAtClass(Class<?> c) {
        int fields = 0;
        for (var f : c.getDeclaredFields()) {
            if (!Modifier.isStatic(f.getModifiers())) {
                fields++;
            } else if (!Modifier.isFinal(f.getModifiers())) {
                fault("static and not final: " + f);
            }
        }
        if (fields > MOST_FIELDS) {
            fault("too many fields: " + c);
        }
        for (Method m : c.getDeclaredMethods()) {
            if (m.getParameterCount() > MOST_PARAMETERS) {
                fault("too many parameters: " + m);
            }
            if (c != PointerSweep.class && FACE.contains(m.getName())) {
                fault("bears the name of a public method: " + m);
            }
        }
    }

    private static void lookAtLengths(String text) {
        String[] lines = text.split("\n");
        int begun = -1;
        String indent = "";
        Pattern head = Pattern.compile("^(\\s+)[\\w\\[\\] ]+\\([^;]*\\) \\{$");
        Pattern statement = Pattern.compile("^\\s+(\\} else )?(if|for|while|switch|do)\\b.*");
        for (int i = 0; i < lines.length; i++) {
            Matcher m = head.matcher(lines[i]);
            if (begun < 0 && m.matches() && !statement.matcher(lines[i]).matches()) {
                begun = i;
                indent = m.group(1);
            } else if (begun >= 0 && lines[i].equals(indent + "}")) {
                if (i - begun + 1 > LONGEST_METHOD) {
                    fault("a long method: " + lines[begun].trim());
                }
                begun = -1;
            }
        }
    }
}
