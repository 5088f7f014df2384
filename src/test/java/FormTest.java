import java.lang.reflect.Constructor;
import java.lang.reflect.Field;
import java.lang.reflect.Method;
import java.lang.reflect.Modifier;
import java.nio.file.Files;
import java.nio.file.Path;
import java.util.ArrayList;
import java.util.HashSet;
import java.util.List;
import java.util.Set;
import java.util.TreeSet;
import java.util.regex.Matcher;
import java.util.regex.Pattern;

/** The face of the class, and those rules of LANGUAGE.md that a look at the classes and the source can tell. */
public final class FormTest {
    private static final String FACE = "int terminal(int,int,int,int); int ship(int,int,int); int way(int,int,int,boolean);"
            + " int tide(int,int); int sea(int,int); int slot(int,int,int,int); int broken(int,int,int);"
            + " int terms(int,int); int order(int,int,int); int go(int); int of(int,int); int part(int,int);"
            + " long book(int,int); int store(int); int landing(int,int); int led(int,int); int heat(int,int);"
            + " int price(int,int,int); int force(int,int,int); int bill(int,int); int feed(int,int,int,int,int);"
            + " int end(int); int contract(); int fault(); long due(int,int,int,int); int settle(int,int);"
            + " long settled(int,int); int table(int,int,int,int); int list(int,int); int reading(int,int,int,int,int);"
            + " long gauged(int,int,int); int cargo(int,int,int,int,int,int,int,int); int clear(); long best(int);"
            + " long voyage(int,int); long judge(int,int,int,int,int); int image(int); int back(int); int count(int);"
            + " int status()";
    private static int wrong = 0;

    private static void must(boolean so, String what) {
        if (!so) {
            wrong++;
            System.out.println("not so: " + what);
        }
    }

    private static void face() {
        Set<String> got = new TreeSet<>();
        Set<String> names = new HashSet<>();
        for (Method m : ColdShips.class.getDeclaredMethods()) {
            if (Modifier.isPublic(m.getModifiers())) {
                List<String> types = new ArrayList<>();
                for (Class<?> type : m.getParameterTypes()) {
                    types.add(type.getName());
                }
                must(!Modifier.isStatic(m.getModifiers()), m.getName() + " belongs to an object");
                got.add(m.getReturnType().getName() + " " + m.getName() + "(" + String.join(",", types) + ")");
                names.add(m.getName());
            } else {
                must(Modifier.isPrivate(m.getModifiers()), "private is " + m.getName());
            }
        }
        Set<String> want = new TreeSet<>();
        for (String method : FACE.split(";")) {
            want.add(method.trim());
        }
        must(got.equals(want), "the face is that of the document: " + got);
        Constructor<?>[] made = ColdShips.class.getDeclaredConstructors();
        must(made.length == 1 && Modifier.isPublic(made[0].getModifiers()) && made[0].getParameterCount() == 0,
                "one public constructor without arguments");
        must(Modifier.isFinal(ColdShips.class.getModifiers()), "the class is final");
        for (Field f : ColdShips.class.getDeclaredFields()) {
            must(f.getName().equals("NONE") || Modifier.isPrivate(f.getModifiers()), "private is " + f.getName());
        }
        inside(names);
    }

    private static void inside(Set<String> names) {
        Class<?>[] inner = ColdShips.class.getDeclaredClasses();
        must(inner.length + 1 <= 12, "at most twelve classes");
        List<Class<?>> all = new ArrayList<>(List.of(inner));
        all.add(ColdShips.class);
        for (Class<?> c : all) {
            must(c == ColdShips.class || Modifier.isStatic(c.getModifiers()), c + " is static");
            int fields = 0;
            for (Field f : c.getDeclaredFields()) {
                boolean fixed = Modifier.isStatic(f.getModifiers());
                fields += fixed ? 0 : 1;
                must(!fixed || Modifier.isFinal(f.getModifiers()), f + " is final");
            }
            must(fields <= 20, c + " has at most twenty fields, not " + fields);
            for (Method m : c.getDeclaredMethods()) {
                must(m.getParameterCount() <= 7 || c == ColdShips.class && m.getName().equals("cargo"),
                        m + " takes at most seven parameters");
                must(Modifier.isPublic(m.getModifiers()) || !names.contains(m.getName()),
                        m + " bears no name of the face");
            }
        }
    }

    private static void source(String text) {
        for (String line : text.split("\n")) {
            must(!line.startsWith("import") || line.equals("import java.util.Arrays;"), line);
            must(line.length() <= 130, "a line is not too long: " + line);
        }
        for (int n = 0; n < text.length(); n++) {
            must(text.charAt(n) < 127, "plain signs alone, at " + n);
        }
        String code = text.replaceAll("(?s)/\\*.*?\\*/", "").replaceAll("//[^\n]*", "")
                .replaceAll("\"[^\"\n]*\"", "\"\"").replaceAll("'[^'\n]'", "' '");
        for (String word : List.of("throw", "throws", "try", "catch", "synchronized", "assert", "instanceof", "double",
                "float", "record", "enum", "package", "protected", "native", "volatile", "System.out", "Object")) {
            Matcher m = Pattern.compile("\\b" + Pattern.quote(word) + "\\b").matcher(code);
            must(!m.find(), "the word is not used: " + word);
        }
        for (String sign : List.of("->", "::", "Exact", "equals(", "hashCode", "toString", "@")) {
            must(!code.contains(sign), "the sign is not used: " + sign);
        }
        Matcher library = Pattern.compile("\\b(System|Arrays|Math|Integer|Long)\\.(\\w+)").matcher(code);
        Set<String> allowed = Set.of("System.arraycopy", "Arrays.fill", "Arrays.copyOf", "Math.min", "Math.max",
                "Math.abs", "Integer.bitCount");
        while (library.find()) {
            must(allowed.contains(library.group()), "of the library: " + library.group());
        }
        lengths(text.split("\n"));
    }

    /** A method begins on a line that opens a brace at the depth of a class's members. */
    private static void lengths(String[] lines) {
        for (int n = 0; n < lines.length; n++) {
            String line = lines[n];
            int deep = line.length() - line.stripLeading().length();
            if (line.endsWith("{") && line.contains("(") && (deep == 4 || deep == 8)
                    && !line.trim().matches("(if|for|while|switch|\\}).*")) {
                int end = n;
                String close = " ".repeat(deep) + "}";
                while (end < lines.length && !lines[end].equals(close)) {
                    end++;
                }
                must(end - n < 60, "at most sixty lines: " + line.trim());
            }
        }
    }

    public static void main(String[] args) throws Exception {
        face();
        must(args.length == 1, "the source is named");
        if (args.length == 1) {
            source(Files.readString(Path.of(args[0])));
        }
        System.out.println(wrong == 0 ? "the form is as due" : wrong + " things are not as due");
        if (wrong != 0) {
            System.exit(1);
        }
    }
}
