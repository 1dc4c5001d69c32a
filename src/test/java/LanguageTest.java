import java.nio.file.Files;
import java.nio.file.Path;
import java.util.ArrayList;
import java.util.List;
import java.util.regex.Matcher;
import java.util.regex.Pattern;

/** Looks through the class for what LANGUAGE.md rules out. */
public final class LanguageTest {
    private static final String[] RULED_OUT = {
        "\\bthrows?\\b", "\\btry\\b", "\\bcatch\\b", "\\bsynchronized\\b", "\\bassert\\b",
        "\\bimport\\b", "\\bpackage\\b", "->", "::", "Exact\\b", "\\bprotected\\b", "\\bnative\\b",
        "\\bhashCode\\b", "\\btoString\\b", "static \\{", "\\bObject\\b", "\\bSystem\\.",
        "\\bRandom\\b", "\\bThread\\b", "\"", "\\bdouble\\b", "\\bfloat\\b"};

    private static final String[] FACE = {
        "key", "keyless", "plan", "member", "waiting", "feature", "forward", "tariff", "credit",
        "hook", "dial", "say", "spoil", "lose", "tick", "line", "partner", "heard", "circuit",
        "speech", "group", "room", "link", "bit", "record", "told"};

    private static int wrong = 0;

    private static void fault(String what) {
        wrong++;
        System.out.println(what);
    }

    public static void main(String[] args) throws Exception {
        String text = Files.readString(Path.of("src/main/java/TelephoneTown.java"));
        for (char c : text.toCharArray()) if (c > 127) fault("a character above 127");
        String code = text.replaceAll("(?s)/\\*.*?\\*/", "").replaceAll("//[^\n]*", "");
        for (String r : RULED_OUT) {
            Matcher m = Pattern.compile(r).matcher(code);
            if (m.find()) fault("ruled out: " + m.group());
        }
        face();
        nested();
        methods(code);
        System.out.println(wrong == 0 ? "all rules are kept" : wrong + " faults");
        if (wrong != 0) System.exit(1);
    }

    /** The public face, and nothing else that can be seen from outside. */
    private static void face() {
        List<String> names = new ArrayList<>(List.of(FACE));
        for (java.lang.reflect.Method m : TelephoneTown.class.getDeclaredMethods()) {
            boolean isPublic = java.lang.reflect.Modifier.isPublic(m.getModifiers());
            boolean isPrivate = java.lang.reflect.Modifier.isPrivate(m.getModifiers());
            if (isPublic && !names.remove(m.getName())) fault("no such method: " + m);
            if (!isPublic && !isPrivate && !m.isSynthetic()) fault("seen from outside: " + m);
            if (isPrivate && List.of(FACE).contains(m.getName())) fault("a public name: " + m);
        }
        if (!names.isEmpty()) fault("missing: " + names);
        for (java.lang.reflect.Field f : TelephoneTown.class.getDeclaredFields()) {
            boolean isPublic = java.lang.reflect.Modifier.isPublic(f.getModifiers());
            boolean isPrivate = java.lang.reflect.Modifier.isPrivate(f.getModifiers());
            boolean due = List.of("NONE", "BAD", "FULL").contains(f.getName());
            if (isPublic != due || !isPublic && !isPrivate) fault("seen from outside: " + f);
        }
        if (TelephoneTown.class.getConstructors().length != 1) fault("not one constructor");
    }

    private static void nested() {
        Class<?>[] all = TelephoneTown.class.getDeclaredClasses();
        if (all.length > 12) fault("too many classes: " + all.length);
        for (Class<?> c : all) {
            if (!java.lang.reflect.Modifier.isStatic(c.getModifiers())) fault("not static: " + c);
            for (java.lang.reflect.Method m : c.getDeclaredMethods()) {
                if (List.of(FACE).contains(m.getName())) fault("a public name: " + m);
                if (m.getParameterCount() > 7) fault("too many parameters: " + m);
            }
            int fields = 0;
            for (java.lang.reflect.Field f : c.getDeclaredFields()) {
                if (!java.lang.reflect.Modifier.isStatic(f.getModifiers())) fields++;
            }
            if (fields > 20) fault("too many fields: " + c);
        }
    }

    /** No method is longer than sixty lines. */
    private static void methods(String code) {
        String[] rows = code.split("\n");
        int start = -1;
        String indent = "";
        for (int i = 0; i < rows.length; i++) {
            Matcher m = Pattern.compile("^( {4}| {8})\\S.*\\).*\\{$").matcher(rows[i]);
            if (start < 0 && m.find()) {
                start = i;
                indent = m.group(1);
            } else if (start >= 0 && rows[i].equals(indent + "}")) {
                if (i - start > 60) fault("too long: " + rows[start]);
                start = -1;
            }
        }
    }
}
