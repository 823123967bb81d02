import java.io.IOException;
import java.lang.reflect.Constructor;
import java.lang.reflect.Field;
import java.lang.reflect.Method;
import java.lang.reflect.Modifier;
import java.nio.file.Files;
import java.nio.file.Path;
import java.util.Set;
import java.util.TreeSet;
import java.util.regex.Matcher;
import java.util.regex.Pattern;

/** The rules of LANGUAGE.md that a program can look after: the face, the words that are ruled out, and no call that throws. */
final class LanguageTest {
    private static final String SOURCE = "src/main/java/SequentMachine.java";
    private static final String[] FACE = {
        "abs()", "absThm()", "app()", "constant(int)", "count(int)", "export()", "fetch(int)", "hypotheses(int)", "inst()",
        "instType(int)", "join(int)", "keep(int)", "kind(int)", "length(int,int)", "pop()", "symbol(int,int,int)",
        "theorem(int)", "type(int)", "var(int)",
    };
    private static final String[] RULED_OUT = {
        "\\bthrow\\b", "\\btry\\b", "\\bcatch\\b", "\\bsynchronized\\b", "\\bassert\\b", "->", "::", "\\.equals\\(",
        "\\bhashCode\\b", "\\btoString\\b", "\\bSystem\\.(?!arraycopy)", "\\bprotected\\b", "\\[\\]\\[\\]", "\\bstatic \\{",
        "\\bdouble\\b", "\\bfloat\\b", "\\bnative\\b", "\\bThread\\b", "\\bpackage\\b", "[^\\x00-\\x7f]",
    };

    private static final Pattern METHOD = Pattern.compile(
            "(?ms)^( {4}| {8})(?! |if|for|while|switch)[\\w\\[\\] ]+\\([^\\n]*\\) \\{$.*?^\\1\\}$");

    public static void main(String[] args) throws IOException {
        face();
        classesInside();
        sizes(SequentMachine.class);
        for (Class<?> inside : SequentMachine.class.getDeclaredClasses()) {
            sizes(inside);
        }
        words();
        lengthsOfMethods();
        longUse();
        Bench.close("LanguageTest");
    }

    private static void face() {
        Class<?> type = SequentMachine.class;
        Bench.check("the class is public and final", Modifier.toString(type.getModifiers()), "public final");
        Set<String> found = new TreeSet<>();
        for (Method method : type.getDeclaredMethods()) {
            if (!Modifier.isPrivate(method.getModifiers())) {
                found.add(method.toString().replaceAll(".*SequentMachine\\.", ""));
                Bench.check(method + " is public and answers an int", method.toString().startsWith("public int "), true);
            }
        }
        Bench.check("the methods", found, new TreeSet<>(Set.of(FACE)));
        for (Constructor<?> constructor : type.getDeclaredConstructors()) {
            Bench.check("the constructor", constructor.toString(), "public SequentMachine()");
        }
        for (Field field : type.getDeclaredFields()) {
            boolean isStatic = Modifier.isStatic(field.getModifiers());
            Bench.check(field + " is private", Modifier.isPrivate(field.getModifiers()), true);
            Bench.check(field + " is final if static", !isStatic || Modifier.isFinal(field.getModifiers()), true);
        }
    }

    private static void classesInside() {
        Class<?>[] inside = SequentMachine.class.getDeclaredClasses();
        Bench.check("there are at most twelve classes", inside.length < 12, true);
        for (Class<?> type : inside) {
            Bench.check(type + " is static", Modifier.isStatic(type.getModifiers()), true);
            Bench.check(type + " is not public", Modifier.isPublic(type.getModifiers()), false);
            for (Method method : type.getDeclaredMethods()) {
                boolean clash = String.join(" ", FACE).matches("(.* )?" + method.getName() + "\\(.*");
                Bench.check(method + " bears the name of a public one", clash, false);
            }
        }
    }

    private static void sizes(Class<?> type) {
        int fields = 0;
        for (Field field : type.getDeclaredFields()) {
            fields += Modifier.isStatic(field.getModifiers()) ? 0 : 1;
        }
        Bench.check(type + " has at most twenty fields", fields <= 20, true);
        for (Method method : type.getDeclaredMethods()) {
            Bench.check(method + " takes at most seven parameters", method.getParameterCount() <= 7, true);
        }
    }

    /** A method ends at the first closing brace that stands as far right as its own line. */
    private static void lengthsOfMethods() throws IOException {
        String source = Files.readString(Path.of(SOURCE));
        Matcher method = METHOD.matcher(source);
        int methods = 0;
        while (method.find()) {
            methods++;
            long lines = method.group().lines().count();
            Bench.check(method.group().lines().findFirst().get().trim() + " has at most sixty lines", lines <= 60, true);
        }
        Bench.check("methods were found", methods > 80, true);
    }

    private static void words() throws IOException {
        String source = Files.readString(Path.of(SOURCE));
        Bench.check("the imports", source.lines().filter(line -> line.startsWith("import ")).toList().toString(),
                "[import java.util.Arrays;]");
        String code = source.replaceAll("(?s)/\\*.*?\\*/", "").replaceAll("//.*", "");
        for (String word : RULED_OUT) {
            Bench.check("the program has " + word, Pattern.compile(word).matcher(code).find(), false);
        }
    }

    /** What calls answer after the 512th is free, but none may throw. */
    private static void longUse() {
        Scripts scripts = new Scripts(11);
        SequentMachine machine = new SequentMachine();
        String[] calls = {"type ", "var ", "constant ", "theorem ", "join ", "instType ", "keep ", "fetch ", "count ", "kind "};
        for (int i = 0; i < 20000; i++) {
            for (String call : scripts.theorem()) {
                Bench.perform(machine, call);
            }
            Bench.perform(machine, calls[scripts.pick(calls.length)] + (scripts.pick(Integer.MAX_VALUE) * 2 + scripts.pick(2)));
            Bench.perform(machine, "symbol " + scripts.pick(400) + " " + (scripts.pick(6) - 1) + " " + (scripts.pick(60) - 5));
        }
        Bench.check("commands done", machine.count(4), 120);
    }
}
