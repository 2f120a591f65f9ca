import java.io.IOException;
import java.lang.reflect.Constructor;
import java.lang.reflect.Field;
import java.lang.reflect.Method;
import java.lang.reflect.Modifier;
import java.nio.charset.StandardCharsets;
import java.nio.file.Files;
import java.nio.file.Path;
import java.util.Set;
import java.util.TreeSet;
import java.util.regex.Matcher;
import java.util.regex.Pattern;

/** The face of the class is the document's, and its source keeps to what LANGUAGE.md leaves, as far as a scan can tell. */
public final class FluteParkFace {
    private static final String FACE = "int write(long,int);int erase();int fault();int park();int place(int,int);"
            + "int band(int,int);int as(int,int);int licence(int,int);int sound(int,int,int);int noise(int,int);"
            + "int step(int);int keep(int);int back(int);int first(int);int most(int);long stands(int);int sides(int);"
            + "long hedged(int);int margin();int price(int);int way(int);int wind(int,int,int,int);"
            + "int seen(int,int,int);int forget();int played(int);int count(int)";
    private static int wrong = 0;

    private static void demand(boolean so, String what) {
        if (!so) {
            wrong++;
            System.out.println(what);
        }
    }

    public static void main(String[] args) throws IOException {
        constants();
        members();
        nested();
        source(Files.readString(Path.of("src/main/java/FlutePark.java"), StandardCharsets.ISO_8859_1));
        System.out.println(wrong == 0 ? "the face is as told" : wrong + " faults in the face");
        if (wrong != 0) {
            System.exit(1);
        }
    }

    private static void constants() {
        demand(FlutePark.NONE == -1 && FlutePark.UNKNOWN == -2 && FlutePark.OUTSIDE == -3 && FlutePark.NOT == -4
                && FlutePark.FULL == -5, "a constant is not as told");
    }

    private static void members() {
        Class<?> c = FlutePark.class;
        demand(Modifier.isPublic(c.getModifiers()) && Modifier.isFinal(c.getModifiers()), "not public and final");
        Set<String> methods = new TreeSet<>();
        Set<String> names = new TreeSet<>();
        for (Method m : c.getDeclaredMethods()) {
            if (Modifier.isPublic(m.getModifiers())) {
                String types = "";
                for (Class<?> type : m.getParameterTypes()) {
                    types += (types.isEmpty() ? "" : ",") + type.getName();
                }
                methods.add(m.getReturnType().getName() + " " + m.getName() + "(" + types + ")");
                names.add(m.getName());
            }
        }
        demand(methods.equals(new TreeSet<>(Set.of(FACE.split(";")))), "the public methods are " + methods);
        for (Method m : c.getDeclaredMethods()) {
            if (!Modifier.isPublic(m.getModifiers())) {
                demand(Modifier.isPrivate(m.getModifiers()), m + " is not private");
                demand(!names.contains(m.getName()), m + " has a public method's name");
            }
        }
        Set<String> fields = new TreeSet<>();
        for (Field f : c.getDeclaredFields()) {
            if (!Modifier.isPrivate(f.getModifiers())) {
                fields.add(f.getName());
            }
        }
        demand(fields.equals(Set.of("NONE", "UNKNOWN", "OUTSIDE", "NOT", "FULL")), "the open fields are " + fields);
        Constructor<?>[] made = c.getDeclaredConstructors();
        demand(made.length == 1 && Modifier.isPublic(made[0].getModifiers()) && made[0].getParameterCount() == 0,
                "not one constructor without arguments");
    }

    private static void nested() {
        demand(FlutePark.class.getDeclaredClasses().length < 12, "too many classes");
        checkClass(FlutePark.class);
        for (Class<?> c : FlutePark.class.getDeclaredClasses()) {
            int m = c.getModifiers();
            demand(Modifier.isStatic(m) && !Modifier.isPublic(m) && !Modifier.isProtected(m), c + " is open or inner");
            checkClass(c);
        }
    }

    private static void checkClass(Class<?> c) {
        int fields = 0;
        for (Field f : c.getDeclaredFields()) {
            demand(!Modifier.isStatic(f.getModifiers()) || Modifier.isFinal(f.getModifiers()), f + " may change");
            fields += Modifier.isStatic(f.getModifiers()) ? 0 : 1;
        }
        demand(fields <= 20, c + " has " + fields + " fields");
        for (Method m : c.getDeclaredMethods()) {
            demand(m.getParameterCount() <= 7, m + " takes too much");
        }
    }

    private static void source(String source) {
        String code = source.replaceAll("(?s)/\\*.*?\\*/", "").replaceAll("//[^\n]*", "");
        Pattern ruledOut = Pattern.compile("\\b(throw|throws|try|catch|finally|synchronized|assert|import|package|"
                + "protected|float|double|HashMap|System\\.(?!arraycopy)\\w+|\\w+Exact)\\b|->|::");
        Matcher m = ruledOut.matcher(code);
        while (m.find()) {
            demand(false, "ruled out in the source: " + m.group());
        }
        int begun = 0;
        String[] lines = code.split("\n");
        for (int i = 0; i < lines.length; i++) {
            if (lines[i].matches("( {4}| {8})(\\w.*)\\) \\{")) {
                begun = i;
            }
            if (lines[i].matches("( {4}| {8})}")) {
                demand(i - begun < 60, "a method of more than sixty lines ends in line " + (i + 1));
            }
        }
    }
}
