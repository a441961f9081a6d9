import java.io.IOException;
import java.lang.reflect.Constructor;
import java.lang.reflect.Executable;
import java.lang.reflect.Field;
import java.lang.reflect.Method;
import java.lang.reflect.Modifier;
import java.nio.file.Files;
import java.nio.file.Path;
import java.util.Set;
import java.util.TreeSet;
import java.util.regex.Matcher;
import java.util.regex.Pattern;

/** The rules of LANGUAGE.md that can be seen in the source or in the compiled classes. */
public final class LanguageTest {
    private static final String FACE = "feed(int,int,int,int,int)int back(int)int read()int place()int tie(int,boolean,int)boolean"
        + " pull(int,int)boolean pin(int,int)boolean glass(int)boolean turn(int)boolean fall()int undo()boolean site(int,int)int"
        + " level(int,int)int both(int,int)int broken(int)int ground(int)int pair(int,int,int,int)int mean(int,int)int value(int)int"
        + " joined(int,int,int)long state(int,int)int stuck(boolean)int rows(int,int,int)int square(int)int overlap(int)int basin(int)int"
        + " stiff(int,int)int hill(int)int pass(int,int)int lakes(int)int down(int)long nearest(int,int)int cluster(int)int"
        + " wander(int,int,int)int hold(int)boolean restore(int)boolean count(int)int";

    public static void main(String[] args) throws IOException {
        String source = Files.readString(Path.of("src/main/java/SpinStrip.java"));
        source(source);
        Set<String> names = face();
        members(SpinStrip.class, names);
        for (Class<?> inside : SpinStrip.class.getDeclaredClasses()) {
            Check.due("rule 1: static " + inside, Modifier.isStatic(inside.getModifiers()), true);
            Check.due("rule 1: not public " + inside, Modifier.isPublic(inside.getModifiers()), false);
            Check.due("rule 2: no class deeper inside " + inside, inside.getDeclaredClasses().length, 0);
            members(inside, names);
        }
        Check.due("rule 11: classes", SpinStrip.class.getDeclaredClasses().length <= 12, true);
        methodLengths(source);
        Check.end();
    }

    private static void source(String source) {
        String bare = source.replaceAll("(?s)/\\*.*?\\*/", "").replaceAll("//[^\n]*", "");
        String[] words = {"throw", "throws", "try", "catch", "finally", "synchronized", "assert", "package", "protected", "var", "volatile",
            "Object", "hashCode", "toString", "values", "float", "double"};
        for (String word : words) Check.due("no word " + word, Pattern.compile("\\b" + word + "\\b").matcher(bare).find(), false);
        for (String sign : new String[] {"->", "::", "Exact", "Thread", "System.out", "System.nano", "System.current", "Random"}) {
            Check.due("no " + sign, bare.contains(sign), false);
        }
        Matcher imports = Pattern.compile("import ([^;]*);").matcher(bare);
        while (imports.find()) Check.due("rule 4: import " + imports.group(1), imports.group(1).equals("java.util.Arrays"), true);
        Matcher library = Pattern.compile("\\b(Integer|Long|Math|Arrays|System|String)\\.\\w+").matcher(bare);
        Set<String> allowed = Set.of("Integer.bitCount", "Integer.signum", "Math.abs", "Math.max", "Math.min", "Arrays.fill", "System.arraycopy");
        while (library.find()) Check.due("rule 4: " + library.group(), allowed.contains(library.group()), true);
        for (char c : source.toCharArray()) if (c > 127) Check.due("a sign above 127", c, 127);
    }

    private static Set<String> face() {
        Set<String> want = new TreeSet<>(Set.of(FACE.split(" ")));
        Set<String> got = new TreeSet<>();
        Set<String> names = new TreeSet<>();
        for (Method m : SpinStrip.class.getDeclaredMethods()) {
            if (Modifier.isPrivate(m.getModifiers())) continue;
            names.add(m.getName());
            got.add(m.getName() + types(m) + m.getReturnType().getSimpleName());
            Check.due("rule 1: public " + m, Modifier.isPublic(m.getModifiers()) && !Modifier.isStatic(m.getModifiers()), true);
        }
        Check.due("the face is " + got, got.equals(want), true);
        Constructor<?>[] made = SpinStrip.class.getDeclaredConstructors();
        Check.due("one constructor", made.length == 1 && made[0].getParameterCount() == 0 && Modifier.isPublic(made[0].getModifiers()), true);
        Check.due("final", Modifier.isFinal(SpinStrip.class.getModifiers()) && Modifier.isPublic(SpinStrip.class.getModifiers()), true);
        for (Field f : SpinStrip.class.getDeclaredFields()) {
            Check.due("rule 1: " + f, Modifier.isPrivate(f.getModifiers()) || f.getName().equals("NONE"), true);
        }
        return names;
    }

    private static String types(Executable m) {
        StringBuilder s = new StringBuilder("(");
        for (Class<?> t : m.getParameterTypes()) s.append(s.length() > 1 ? "," : "").append(t.getSimpleName());
        return s.append(')').toString();
    }

    private static void members(Class<?> c, Set<String> face) {
        int fields = 0;
        for (Field f : c.getDeclaredFields()) {
            boolean isStatic = Modifier.isStatic(f.getModifiers());
            if (!isStatic) fields++;
            if (isStatic) Check.due("rule 5: final " + f, Modifier.isFinal(f.getModifiers()), true);
        }
        Check.due("rule 11: fields of " + c, fields <= 20, true);
        for (Method m : c.getDeclaredMethods()) {
            Check.due("rule 11: parameters of " + m, m.getParameterCount() <= 7, true);
            boolean ofFace = c == SpinStrip.class && Modifier.isPublic(m.getModifiers());
            if (!ofFace) Check.due("rule 1: the name of " + m, face.contains(m.getName()), false);
        }
    }

    /** A method begins four or eight blanks in and ends with a brace as far in. */
    private static void methodLengths(String source) {
        String[] lines = source.split("\n");
        for (int i = 0; i < lines.length; i++) {
            if (!lines[i].matches("( {4}| {8})(public|private) [^=;]*\\) \\{")) continue;
            String end = lines[i].replaceAll("\\S.*", "") + "}";
            int length = 1;
            while (i + length < lines.length && !lines[i + length].equals(end)) length++;
            Check.due("rule 11: length of" + lines[i], length <= 60, true);
        }
    }
}
