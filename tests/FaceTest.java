import java.io.IOException;
import java.lang.reflect.Constructor;
import java.lang.reflect.Field;
import java.lang.reflect.Method;
import java.lang.reflect.Modifier;
import java.nio.file.Files;
import java.nio.file.Path;
import java.util.ArrayList;
import java.util.Arrays;
import java.util.Collections;
import java.util.List;
import java.util.Set;
import java.util.TreeSet;
import java.util.regex.Matcher;
import java.util.regex.Pattern;

/** The public face, and what LANGUAGE.md leaves and what can be seen by the names alone. */
public final class FaceTest {
    private static final Check C = new Check("Face");
    private static final String FACE = "months(int) claim(int,int,int,int) word(int,boolean) alive(int,int,int) join(int,boolean) members(int) must(int) way(int,int)"
        + " needed(int) round(int) swear(int,int) among(boolean) feed(long,int) read() version(int,int) boxes(int,int) count(int,int)"
        + " leave(int,int,int,int,boolean) part(int,int) owe(int,int,int) paid(int,int,int) back(int,int) drawn(int,int,int) under(int,int)"
        + " sum(int,int) share(int,int,int) prove(int) row(int,int) alterRow(int,int,int) judge(int) ask(int,int) ring(int,int) machine(int,int)"
        + " crossed(int,int,boolean) holes(int,int,boolean) like(int,int) fair(int,int,int) sheet(int,int,int) put(int,int,int) item(int,int,int)"
        + " comes(int,int,int) shelf(int,int,int) taken(int,int) act(int,int,int) trace(int) many(int) keep() again()";

    public static void main(String[] args) throws IOException {
        face();
        inside();
        source(Files.readString(Path.of(args.length > 0 ? args[0] : "src/main/java/BoxLeaves.java")));
        C.end();
    }

    private static void face() {
        C.holds("public and final", BoxLeaves.class.getModifiers() == (Modifier.PUBLIC | Modifier.FINAL));
        List<String> due = new ArrayList<>(Arrays.asList(FACE.split(" ")));
        List<String> got = new ArrayList<>();
        Set<String> hidden = new TreeSet<>();
        Set<String> open = new TreeSet<>();
        for (Method m : BoxLeaves.class.getDeclaredMethods()) {
            if (Modifier.isPrivate(m.getModifiers())) {
                hidden.add(m.getName());
                continue;
            }
            open.add(m.getName());
            StringBuilder b = new StringBuilder(m.getName()).append('(');
            for (Class<?> p : m.getParameterTypes()) b.append(b.charAt(b.length() - 1) == '(' ? "" : ",").append(p.getName());
            got.add(b.append(')').toString());
            C.holds("public, of the object, answers int: " + m, m.getModifiers() == Modifier.PUBLIC && m.getReturnType() == int.class);
        }
        Collections.sort(due);
        Collections.sort(got);
        C.holds("the methods are those of the document: " + got, due.equals(got));
        C.due("methods", got.size(), 48);
        hidden.retainAll(open);
        C.holds("no private method bears a public one's name: " + hidden, hidden.isEmpty());
        Constructor<?>[] made = BoxLeaves.class.getDeclaredConstructors();
        C.holds("one public constructor", made.length == 1 && made[0].getModifiers() == Modifier.PUBLIC && made[0].getParameterCount() == 0);
        List<String> constants = new ArrayList<>();
        for (Field f : BoxLeaves.class.getDeclaredFields()) {
            if (!Modifier.isPrivate(f.getModifiers())) constants.add(f.toString().replace("public static final int BoxLeaves.", ""));
        }
        Collections.sort(constants);
        C.holds("the constants: " + constants, constants.equals(List.of("BAD", "FULL", "NONE", "STATE")));
        C.due("BAD", BoxLeaves.BAD, -1);
        C.due("FULL", BoxLeaves.FULL, -2);
        C.due("NONE", BoxLeaves.NONE, -3);
        C.due("STATE", BoxLeaves.STATE, -4);
    }

    private static void inside() {
        Class<?>[] classes = BoxLeaves.class.getDeclaredClasses();
        C.holds("some twelve classes: " + classes.length, classes.length <= 12);
        for (Class<?> c : classes) {
            C.holds("static, not public: " + c, Modifier.isStatic(c.getModifiers()) && !Modifier.isPublic(c.getModifiers()) && !Modifier.isProtected(c.getModifiers()));
            int fields = 0;
            for (Field f : c.getDeclaredFields()) {
                if (!Modifier.isStatic(f.getModifiers())) fields++;
                else C.holds("a final static field: " + f, Modifier.isFinal(f.getModifiers()));
            }
            C.holds("some twenty fields of " + c + ": " + fields, fields <= 20);
        }
    }

    private static void source(String whole) {
        String code = whole.replaceAll("(?s)/\\*.*?\\*/", "").replaceAll("//[^\n]*", "");
        for (String word : new String[] {"throw", "throws", "try", "catch", "finally", "synchronized", "assert", "import", "package", "native", "volatile", "transient",
            "instanceof", "Object", "System\\.(?!arraycopy)", "Thread", "float", "double", "var", "yield"}) {
            Matcher m = Pattern.compile("\\b" + word + (word.endsWith(")") ? "" : "\\b")).matcher(code);
            C.holds("no " + word, !m.find());
        }
        for (String sign : new String[] {"->", "::", "\" +", "+ \"", "@", "Exact(", "equals(", "hashCode(", "toString("}) C.holds("no " + sign, !code.contains(sign));
        for (int i = 0; i < whole.length(); i++) {
            if (whole.charAt(i) > 126) C.holds("plain signs alone, at " + i, false);
        }
        Matcher made = Pattern.compile("(?m)^(.*)\\bnew\\b").matcher(code);
        while (made.find()) {
            String line = made.group(1);
            // what is made is made once, with the object: no call makes anything
            C.holds("made with the object: " + line, line.contains("final") || line.contains("terms[v] ="));
        }
        lengths(code);
    }

    private static void lengths(String code) {
        String[] lines = code.split("\n", -1);
        for (int i = 0; i < lines.length; i++) {
            if (!lines[i].matches("( {4}| {8})[a-z][^=;]*\\) \\{")) continue;
            String indent = lines[i].substring(0, lines[i].length() - lines[i].stripLeading().length());
            int end = i;
            while (end < lines.length && !lines[end].equals(indent + "}")) end++;
            C.holds("sixty lines: " + lines[i].strip(), end - i < 60);
            String inner = lines[i].substring(lines[i].indexOf('(') + 1, lines[i].lastIndexOf(')'));
            C.holds("seven parameters: " + lines[i].strip(), inner.split(",").length <= 7);
        }
    }
}
