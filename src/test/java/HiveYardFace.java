import java.lang.reflect.Constructor;
import java.lang.reflect.Field;
import java.lang.reflect.Method;
import java.lang.reflect.Modifier;
import java.nio.file.Files;
import java.nio.file.Path;
import java.util.Arrays;
import java.util.Set;
import java.util.TreeSet;
import java.util.regex.Matcher;
import java.util.regex.Pattern;

// The class has the document's face and no more, and keeps to what LANGUAGE.md rules can be seen here.
public final class HiveYardFace {
    private static final String[] FACE = {
        "int set(int,int,int)", "int hive(int,boolean,int)", "int share(int,int)", "int clear(int)",
        "int give(int,int,int)", "int row(int,int)", "int strip(int)", "int comb(int,int,int)",
        "int put(int,int,int)", "int take(int,int,int)", "long honey(int,int,int)", "long lay(int,int,int)",
        "long tend(int,int,boolean)", "long cell(int,int,int,int)", "long harvest(int,int)", "int sound(int)",
        "int sort(int)", "long told(int,int)", "int same(int,int)", "int count(int)",
    };
    private static final Pattern RULED_OUT = Pattern.compile(
        "\\b(throw|throws|try|catch|synchronized|assert|import|package|equals|hashCode|toString|\\w+Exact)\\b|->|::|@");

    private static int wrong = 0;

    private static void due(String what, Object got, Object want) {
        if (!got.equals(want)) {
            wrong++;
            System.out.println(what + " is " + got + ", due is " + want);
        }
    }

    public static void main(String[] args) throws Exception {
        face();
        nestedClasses();
        source(Path.of("src/main/java/HiveYard.java"));
        System.out.println(wrong == 0 ? "the face is as due" : wrong + " things are not as due");
        if (wrong != 0) {
            System.exit(1);
        }
    }

    private static void face() throws Exception {
        Class<?> type = HiveYard.class;
        due("the class's modifiers", Modifier.toString(type.getModifiers()), "public final");
        Set<String> methods = new TreeSet<>();
        Set<String> privateNames = new TreeSet<>();
        Set<String> publicNames = new TreeSet<>();
        for (Method m : type.getDeclaredMethods()) {
            if (Modifier.isPrivate(m.getModifiers())) {
                privateNames.add(m.getName());
            } else {
                due("modifiers of " + m.getName(), Modifier.toString(m.getModifiers()), "public");
                methods.add(signature(m));
                publicNames.add(m.getName());
            }
        }
        due("the methods", methods, new TreeSet<>(Arrays.asList(FACE)));
        privateNames.retainAll(publicNames);
        due("private methods with a public one's name", privateNames, Set.of());
        Constructor<?>[] made = type.getDeclaredConstructors();
        due("constructors", made.length, 1);
        due("the constructor", made[0].toString(), "public HiveYard()");
        for (Field f : type.getDeclaredFields()) {
            boolean bad = f.getName().equals("BAD");
            due("BAD alone is public: " + f.getName(), Modifier.isPrivate(f.getModifiers()), !bad);
            due("static fields are final: " + f.getName(),
                Modifier.isStatic(f.getModifiers()) && !Modifier.isFinal(f.getModifiers()), false);
        }
        due("BAD", type.getField("BAD").toString(), "public static final int HiveYard.BAD");
    }

    private static String signature(Method m) {
        StringBuilder text = new StringBuilder(m.getReturnType().getName()).append(' ').append(m.getName());
        String comma = "(";
        for (Class<?> p : m.getParameterTypes()) {
            text.append(comma).append(p.getName());
            comma = ",";
        }
        return text.append(')').toString();
    }

    private static void nestedClasses() {
        Class<?>[] inside = HiveYard.class.getDeclaredClasses();
        due("at most twelve classes", inside.length <= 11, true);
        for (Class<?> c : inside) {
            due(c.getName() + " is static", Modifier.isStatic(c.getModifiers()), true);
            due(c.getName() + " is public", Modifier.isPublic(c.getModifiers()), false);
        }
    }

    private static void source(Path file) throws Exception {
        String code = Files.readString(file).replaceAll("(?s)/\\*.*?\\*/", "").replaceAll("//[^\n]*", "");
        Matcher found = RULED_OUT.matcher(code);
        while (found.find()) {
            due("what LANGUAGE.md rules out", found.group(), "");
        }
    }
}
