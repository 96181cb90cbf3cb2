import java.lang.reflect.Constructor;
import java.lang.reflect.Field;
import java.lang.reflect.Method;
import java.lang.reflect.Modifier;
import java.nio.file.Files;
import java.nio.file.Path;
import java.util.ArrayList;
import java.util.List;
import java.util.Set;
import java.util.TreeSet;
import java.util.regex.Matcher;
import java.util.regex.Pattern;

/** The public face, and those rules of LANGUAGE.md that can be read off the class or its text. Its argument: the project's folder. */
public final class RulesTest {
    private static final Due due = new Due();
    private static final String[] FACE = {
        "int wall(int,int,int,int)", "int ofCell(int,int)", "int set(int,int)", "int years(int)", "int hang(int,boolean)",
        "int coat(int,int,int,int)", "int ofCoat(int,int)", "int paint(int,int)", "int back(int,int,boolean)", "int light(int,int,int)",
        "int look(int,int,boolean)", "int unlike(int,int,int,boolean)", "int seen(int)", "int mix(int,int,int,int)", "int best(int,int)",
        "int traitors(int,int,int)", "int patch(int,int,int)", "int leave(int,int)", "int on(int,int,int)", "int hide(int)",
        "int hung(int,int,int,int,int,int)", "long old(int,int,int,int,int)", "int sheet(int,int,int)", "int lose(int)",
        "int put(int,int,int)", "long cell(int,int,int)", "int copy(int,int,int,int,int)", "int tell(int)", "int name(int)",
        "int as(int,int)", "int trace()", "int fault()", "int many(int)",
    };
    private static final String[] BANNED = {
        "throw", "try", "catch", "finally", "synchronized", "assert", "volatile", "Exception", "Error", "Random", "System.currentTimeMillis",
        "System.nanoTime", "Thread", "System.out", "System.err", "hashCode", "toString", "Object", "Exact",
    };

    public static void main(String[] args) throws Exception {
        constants();
        face();
        classesInside();
        Path source = Path.of(args.length > 0 ? args[0] : ".", "src/main/java/TouchUp.java");
        text(Files.readString(source));
        asTheDocumentWritesIt(Files.readString(source), Path.of(args.length > 0 ? args[0] : ".", "../shared/DOC.md"));
        due.end("RulesTest");
    }

    /** Each line of the document's face stands in the source, with the parameters' names, and there is no other public one. */
    private static void asTheDocumentWritesIt(String source, Path document) throws Exception {
        if (!Files.exists(document)) {
            return;
        }
        Set<String> want = publicLines(Files.readString(document).replaceAll("(?s).*?```java\n(.*?)```.*", "$1"));
        due.is("lines of the document's face", want.size(), 37);
        Set<String> got = publicLines(source);
        due.holds("public lines are the document's: " + got, got.equals(want));
    }

    private static Set<String> publicLines(String text) {
        Set<String> found = new TreeSet<>();
        Matcher lines = Pattern.compile("(?m)^ *(public .*?)(;| \\{)$").matcher(text);
        while (lines.find()) {
            found.add(lines.group(1));
        }
        return found;
    }

    private static void constants() throws Exception {
        due.is("UNKNOWN", TouchUp.UNKNOWN, -1);
        due.is("OUTSIDE", TouchUp.OUTSIDE, -2);
        due.is("STATE", TouchUp.STATE, -3);
        due.is("FULL", TouchUp.FULL, -4);
        due.is("NONE", TouchUp.NONE, -9);
        due.is("LOST", TouchUp.LOST, Long.MIN_VALUE);
        Set<String> open = new TreeSet<>();
        for (Field f : TouchUp.class.getDeclaredFields()) {
            if (!Modifier.isPrivate(f.getModifiers())) {
                open.add(Modifier.toString(f.getModifiers()) + " " + f.getType().getName() + " " + f.getName());
            }
        }
        Set<String> want = new TreeSet<>();
        for (String name : new String[] {"UNKNOWN", "OUTSIDE", "STATE", "FULL", "NONE"}) {
            want.add("public static final int " + name);
        }
        want.add("public static final long LOST");
        due.holds("open fields are the document's: " + open, open.equals(want));
    }

    private static void face() {
        int modifiers = TouchUp.class.getModifiers();
        due.holds("the class is public and final", Modifier.isPublic(modifiers) && Modifier.isFinal(modifiers));
        Set<String> open = new TreeSet<>();
        Set<String> names = new TreeSet<>();
        for (Method m : TouchUp.class.getDeclaredMethods()) {
            if (!Modifier.isPrivate(m.getModifiers())) {
                open.add(signature(m));
                names.add(m.getName());
                due.is("modifiers of " + m.getName(), m.getModifiers(), Modifier.PUBLIC);
            }
        }
        due.holds("open methods are the document's: " + open, open.equals(new TreeSet<>(List.of(FACE))));
        Constructor<?>[] made = TouchUp.class.getDeclaredConstructors();
        due.is("constructors", made.length, 1);
        due.is("its parameters", made[0].getParameterCount(), 0);
        due.is("its modifiers", made[0].getModifiers(), Modifier.PUBLIC);
        for (Class<?> c : all()) {
            for (Method m : c.getDeclaredMethods()) {
                boolean ofFace = c == TouchUp.class && !Modifier.isPrivate(m.getModifiers());
                due.holds(c.getName() + "." + m.getName() + " bears no public name", ofFace || !names.contains(m.getName()));
                due.holds(m.getName() + " has seven parameters at most", m.getParameterCount() <= 7);
            }
        }
    }

    private static String signature(Method m) {
        StringBuilder s = new StringBuilder(m.getReturnType().getName() + " " + m.getName() + "(");
        Class<?>[] types = m.getParameterTypes();
        for (int i = 0; i < types.length; i++) {
            s.append(i == 0 ? "" : ",").append(types[i].getName());
        }
        return s.append(")").toString();
    }

    private static List<Class<?>> all() {
        List<Class<?>> all = new ArrayList<>();
        all.add(TouchUp.class);
        all.addAll(List.of(TouchUp.class.getDeclaredClasses()));
        return all;
    }

    private static void classesInside() {
        due.holds("twelve classes at most", all().size() <= 12);
        for (Class<?> c : all()) {
            int modifiers = c.getModifiers();
            if (c != TouchUp.class) {
                due.holds(c.getName() + " is static", Modifier.isStatic(modifiers));
                due.holds(c.getName() + " is not open", !Modifier.isPublic(modifiers) && !Modifier.isProtected(modifiers));
            }
            int fields = 0;
            for (Field f : c.getDeclaredFields()) {
                boolean isStatic = Modifier.isStatic(f.getModifiers());
                fields += isStatic ? 0 : 1;
                due.holds(f.getName() + ", if static, is final", !isStatic || Modifier.isFinal(f.getModifiers()));
                due.holds(f.getName() + ", if static, is a number", !isStatic || f.getType().isPrimitive());
            }
            due.holds(c.getName() + " has twenty fields at most", fields <= 20);
        }
    }

    private static void text(String source) {
        String code = source.replaceAll("(?s)/\\*.*?\\*/", "").replaceAll("//[^\n]*", "");
        for (String word : BANNED) {
            due.holds("no '" + word + "'", !Pattern.compile("\\b" + Pattern.quote(word) + "\\b").matcher(code).find());
        }
        due.holds("no lambda", !code.contains("->"));
        due.holds("no method reference", !code.contains("::"));
        due.holds("no package", !Pattern.compile("(?m)^package ").matcher(code).find());
        due.holds("no 'Exact' function", !code.contains("Exact("));
        Matcher imports = Pattern.compile("(?m)^import (.*);").matcher(code);
        while (imports.find()) {
            due.holds("import " + imports.group(1), imports.group(1).equals("java.util.Arrays"));
        }
        int open = 0;
        String[] lines = source.split("\n");
        for (int i = 0; i < lines.length; i++) {
            due.holds("line " + (i + 1) + " is plain and not too long", lines[i].matches("[\\x20-\\x7e]{0,140}"));
            if (lines[i].matches(" {4,8}[a-z].*\\) \\{")) {
                open = i;
            }
            if (lines[i].matches(" {4,8}\\}")) {
                due.holds("the method that ends in line " + (i + 1) + " has sixty lines at most", i - open <= 60 || open == 0);
                open = 0;
            }
        }
    }
}
