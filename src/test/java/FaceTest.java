import java.io.IOException;
import java.lang.reflect.Constructor;
import java.lang.reflect.Field;
import java.lang.reflect.Method;
import java.lang.reflect.Modifier;
import java.nio.file.Files;
import java.nio.file.Path;
import java.util.ArrayList;
import java.util.List;
import java.util.Set;
import java.util.TreeSet;
import java.util.regex.Matcher;
import java.util.regex.Pattern;

/** The public face is the document's, and the source keeps to those rules of LANGUAGE.md that a text search can see. */
public final class FaceTest {
    private static final String SOURCE = "src/main/java/BondCalendars.java";
    private static final String DOCUMENT = "../shared/DOC.md";

    private static int wrong = 0;

    public static void main(String[] args) throws IOException {
        face();
        classes();
        source();
        System.out.println(wrong == 0 ? "the face and the source are as due" : wrong + " things are not as due");
        if (wrong != 0) {
            System.exit(1);
        }
    }

    private static void bad(String what) {
        wrong++;
        System.out.println(what);
    }

    private static void face() throws IOException {
        Set<String> due = new TreeSet<>();
        String document = Files.readString(Path.of(DOCUMENT));
        Matcher m = Pattern.compile("^    public (?:int|long|boolean) (\\w+)\\(([^)]*)\\)", Pattern.MULTILINE).matcher(document);
        while (m.find()) {
            due.add(m.group(1) + "(" + m.group(2).replaceAll("(\\w+) \\w+", "$1").replace(" ", "") + ")");
        }
        Set<String> there = new TreeSet<>();
        List<String> hidden = new ArrayList<>();
        for (Method method : BondCalendars.class.getDeclaredMethods()) {
            if (Modifier.isPublic(method.getModifiers())) {
                List<String> types = new ArrayList<>();
                for (Class<?> type : method.getParameterTypes()) {
                    types.add(type.getName());
                }
                there.add(method.getName() + "(" + String.join(",", types) + ")");
            } else if (!Modifier.isPrivate(method.getModifiers())) {
                bad("neither public nor private: " + method);
            } else {
                hidden.add(method.getName());
            }
        }
        if (due.size() != 43 || !due.equals(there)) {
            bad("methods are " + there + ", due are " + due);
        }
        for (String name : hidden) {
            if (there.toString().matches(".*\\b" + name + "\\(.*")) {
                bad("a private method bears the name of a public one: " + name);
            }
        }
        fieldsAndConstructors();
    }

    private static void fieldsAndConstructors() {
        for (Field field : BondCalendars.class.getDeclaredFields()) {
            if (!Modifier.isPrivate(field.getModifiers()) && !field.getName().equals("NONE")) {
                bad("a field beside NONE that isn't private: " + field);
            }
        }
        if (BondCalendars.NONE != -1) {
            bad("NONE is " + BondCalendars.NONE);
        }
        Constructor<?>[] all = BondCalendars.class.getDeclaredConstructors();
        if (all.length != 1 || !Modifier.isPublic(all[0].getModifiers()) || all[0].getParameterCount() != 0) {
            bad("there must be one public constructor without parameters");
        }
        if (!Modifier.isFinal(BondCalendars.class.getModifiers())) {
            bad("the class must be final");
        }
    }

    private static void classes() {
        Class<?>[] inside = BondCalendars.class.getDeclaredClasses();
        if (inside.length > 11) {
            bad("more than twelve classes");
        }
        Set<String> face = new TreeSet<>();
        for (Method method : BondCalendars.class.getMethods()) {
            face.add(method.getName());
        }
        for (Class<?> one : inside) {
            int modifiers = one.getModifiers();
            if (!Modifier.isStatic(modifiers) || Modifier.isPublic(modifiers) || Modifier.isProtected(modifiers)) {
                bad("a class inside must be static, and neither public nor protected: " + one);
            }
            int fields = 0;
            for (Field field : one.getDeclaredFields()) {
                fields += Modifier.isStatic(field.getModifiers()) ? 0 : 1;
                if (Modifier.isStatic(field.getModifiers()) && !Modifier.isFinal(field.getModifiers())) {
                    bad("a static field that isn't final: " + field);
                }
            }
            if (fields > 20) {
                bad("more than twenty fields: " + one);
            }
            for (Method method : one.getDeclaredMethods()) {
                if (face.contains(method.getName())) {
                    bad("a method inside bears the name of one of the face: " + method);
                }
                if (method.getParameterCount() > 7) {
                    bad("more than seven parameters: " + method);
                }
            }
        }
    }

    private static void source() throws IOException {
        String text = Files.readString(Path.of(SOURCE));
        String code = text.replaceAll("/\\*(?s:.*?)\\*/", "").replaceAll("//[^\n]*", "");
        String[] ruledOut = {"\\bpackage\\b", "->", "::", "\\btry\\b", "\\bcatch\\b", "\\bfinally\\b", "\\bassert\\b",
            "\\bsynchronized\\b", "\\bDouble\\.", "\\bFloat\\.", "\\bObject\\b", "\\bMap\\b", "\\bvar\\b", "Exact\\(",
            "\\bMath\\.(?!min|max|floorMod|floorDiv)", "\\bSystem\\.(?!arraycopy)", "\\bString\\.", "\\bThread\\b",
            "\\bequals\\(", "\\bhashCode\\b", "\\btoString\\b", "\\bthrow new (?!NoSuchElementException)",
            "\\bstatic final (double|float|boolean\\[|double\\[)", "\\bstatic \\{", "\\binstanceof\\b"};
        for (String pattern : ruledOut) {
            Matcher m = Pattern.compile(pattern).matcher(code);
            if (m.find()) {
                bad("the source holds what the language rules out: " + m.group());
            }
        }
        Matcher imports = Pattern.compile("^import (.*);", Pattern.MULTILINE).matcher(code);
        while (imports.find()) {
            if (!imports.group(1).equals("java.util.NoSuchElementException")) {
                bad("an import too many: " + imports.group(1));
            }
        }
        shortMethods(code);
    }

    private static void shortMethods(String code) {
        String[] lines = code.split("\n", -1);
        String name = null;
        String indent = "";
        int start = 0;
        for (int i = 0; i < lines.length; i++) {
            Matcher head = Pattern.compile("^( +)[\\w\\[\\]. ]+ (\\w+)\\([^;]*\\{$").matcher(lines[i]);
            boolean control = lines[i].matches("^ +(\\} else )?(if|for|while|switch|else|return)\\b.*");
            if (name == null && head.matches() && !control) {
                name = head.group(2);
                indent = head.group(1);
                start = i;
            } else if (name != null && lines[i].equals(indent + "}")) {
                if (i - start + 1 > 60) {
                    bad("a method of more than sixty lines: " + name);
                }
                name = null;
            }
        }
    }
}
