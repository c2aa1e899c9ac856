import java.lang.reflect.Constructor;
import java.lang.reflect.Field;
import java.lang.reflect.Method;
import java.lang.reflect.Modifier;
import java.nio.file.Files;
import java.nio.file.Path;
import java.util.Arrays;
import java.util.Set;
import java.util.TreeSet;
import java.util.regex.Matcher;
import java.util.regex.Pattern;

/** The face is the document's and nothing else; the source keeps to what of LANGUAGE.md can be seen by signs. */
public final class FaceTest {
    private static final String[] FACE = {
        "int feed(int,int,int,int,int)", "int machine(int) IAE", "int work(int) IAE", "int fault()", "int told(int) IAE", "int root(int) IAE",
        "int line(int,int) NSE IAE", "long word(int) NSE", "boolean sound(int) NSE", "int where(int) NSE", "int found(int) NSE",
        "int node(int,int) NSE IAE", "int minor(int,int) NSE IOB", "int held(int,int) NSE NPE IOB", "int used(int) IAE", "int above(int,int) NSE IAE",
        "long under(int) NSE", "long dirty()", "int fetched(int) IAE", "int stored(int) IAE", "int album(int,int) NSE IAE", "int kept(int,int) NSE CCE IOB",
        "boolean laid(int,int) NSE", "int mends()", "int stale()", "int left(int) NSE", "int wear(int) NSE", "int costs(int,int,int) NSE IAE",
        "int flushes(int) IAE", "int after(int,int,int) NSE IAE", "int losses(int) IAE", "int replayed(int,int) NSE IAE", "int forgeries(int) NSE",
        "int splices()", "int tour(long) IAE", "int stop(long,int) IAE", "int reel(int) IAE", "int reelBy(int,int) IAE", "int least(int) IAE",
        "int pad(int,int) NSE IAE", "int weight(int) IAE", "int box(int) IAE", "long print()", "int status(int)", "int count()"};

    public static void main(String[] args) throws Exception {
        face();
        names();
        signs();
        Check.end("FaceTest");
    }

    private static void face() {
        Set<String> due = new TreeSet<>(Arrays.asList(FACE));
        Set<String> got = new TreeSet<>();
        for (Method m : FreshLines.class.getDeclaredMethods()) {
            if (!Modifier.isPrivate(m.getModifiers()) && !m.isSynthetic()) {
                got.add(shown(m));
                Check.due("only public: " + m, true, Modifier.isPublic(m.getModifiers()) && !Modifier.isStatic(m.getModifiers()));
            }
        }
        Check.due("face, due " + due + ", is " + got, true, due.equals(got));
        for (Field f : FreshLines.class.getDeclaredFields()) {
            boolean none = f.getName().equals("NONE");
            Check.due("field " + f, !none, Modifier.isPrivate(f.getModifiers()));
            Check.due("static fields are final: " + f, true, !Modifier.isStatic(f.getModifiers()) || Modifier.isFinal(f.getModifiers()));
        }
        Constructor<?>[] made = FreshLines.class.getDeclaredConstructors();
        Check.due("constructors", 1, made.length);
        Check.due("public, without parameters", true, Modifier.isPublic(made[0].getModifiers()) && made[0].getParameterCount() == 0);
        Check.due("final", true, Modifier.isFinal(FreshLines.class.getModifiers()));
    }

    private static String shown(Method m) {
        StringBuilder s = new StringBuilder();
        s.append(m.getReturnType()).append(' ').append(m.getName()).append('(');
        for (Class<?> p : m.getParameterTypes()) {
            s.append(s.charAt(s.length() - 1) == '(' ? "" : ",").append(p);
        }
        s.append(')');
        for (Class<?> e : m.getExceptionTypes()) {
            String name = e.getSimpleName();
            s.append(name.startsWith("NoSuch") ? " NSE" : name.startsWith("Illegal") ? " IAE" : name.startsWith("Null") ? " NPE"
                : name.startsWith("Class") ? " CCE" : " IOB");
        }
        return s.toString();
    }

    /** No other method bears the name of one of the face; classes stay within what the rules set. */
    private static void names() {
        Set<String> taken = new TreeSet<>();
        for (String s : FACE) {
            taken.add(s.replaceAll(".* (\\w+)\\(.*", "$1"));
        }
        Class<?>[] inside = FreshLines.class.getDeclaredClasses();
        Check.due("classes inside", true, inside.length <= 11);
        for (Method m : FreshLines.class.getDeclaredMethods()) {
            Check.due("name of " + m, true, !Modifier.isPrivate(m.getModifiers()) || !taken.contains(m.getName()));
        }
        for (Class<?> c : inside) {
            Check.due("not public, not protected: " + c, false, Modifier.isPublic(c.getModifiers()) || Modifier.isProtected(c.getModifiers()));
            for (Method m : c.getDeclaredMethods()) {
                Check.due("name of " + m, false, taken.contains(m.getName()));
                Check.due("parameters of " + m, true, m.getParameterCount() <= 7);
            }
        }
    }

    private static void signs() throws Exception {
        String source = Files.readString(Path.of("src/main/java/FreshLines.java"));
        String code = source.replaceAll("(?s)/\\*.*?\\*/", "").replaceAll("//[^\n]*", "").replaceAll("\"[^\"\n]*\"", "\"\"").replaceAll("'.'", "' '");
        String[] never = {"\\bfinally\\b", "\\bsynchronized\\b", "\\bassert\\b", "->", "::", "\\bpackage\\b", "\\bgetMessage\\b", "Exact\\b", "\\bThread\\b", "\\bRandom\\b",
            "nanoTime", "currentTimeMillis", "\\bprotected\\b", "static \\{", "\\bhashCode\\b", "\\bvar\\b", "\\bwhile \\(true",
            "catch \\((final )?(Throwable|Exception|RuntimeException|NullPointer|Arithmetic|ClassCast|ArrayIndex|ArrayStore|NegativeArray|Error)"};
        for (String sign : never) {
            Check.due("no " + sign, false, Pattern.compile(sign).matcher(code).find());
        }
        Matcher imports = Pattern.compile("(?m)^import (.*);").matcher(code);
        while (imports.find()) {
            Check.due(imports.group(), true, imports.group(1).matches("java\\.util\\.(NoSuchElementException|ArrayList|List|Arrays|Iterator)"));
        }
        Matcher thrown = Pattern.compile("throw ([^;]*)\\(\"\"\\);").matcher(code);
        int throwsSeen = 0;
        while (thrown.find()) {
            throwsSeen++;
            Check.due(thrown.group(), true, thrown.group(1).matches("new (NoSuchElement|IllegalArgument|NullPointer|IndexOutOfBounds|ClassCast)Exception"));
        }
        Check.due("each throw is of that form", throwsSeen, code.split("\\bthrow ", -1).length - 1);
        Matcher bodies = Pattern.compile("(?m)^( +)(?:[a-z]+ )*[\\w\\[\\]]+ \\w+\\([^;{]*\\{\n(?s:.*?)^\\1\\}").matcher(code);
        while (bodies.find()) {
            Check.due("a method of more than sixty lines: " + bodies.group().split("\n")[0], true, bodies.group().split("\n").length <= 60 || bodies.group().contains(" class "));
        }
        for (int i = 0; i < source.length(); i++) {
            Check.due("signs are 1 to 127", true, source.charAt(i) > 0 && source.charAt(i) < 128);
        }
    }
}
