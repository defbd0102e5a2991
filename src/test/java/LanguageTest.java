import java.io.IOException;
import java.lang.reflect.Constructor;
import java.lang.reflect.Field;
import java.lang.reflect.Method;
import java.lang.reflect.Modifier;
import java.nio.file.Files;
import java.nio.file.Path;
import java.util.HashSet;
import java.util.List;
import java.util.Set;
import java.util.TreeSet;
import java.util.regex.Matcher;
import java.util.regex.Pattern;

/** The public face, as the document has it, and the rules of LANGUAGE.md that can be read off the class or its source. */
public final class LanguageTest {
    private static final Set<String> FACE = new TreeSet<>(List.of(
        "int row(int,int,int)", "int share(int,int)", "int kind(int,int)", "int put(int,int,long)", "long at(int,int)",
        "long as(int,int,int)", "int reverse(int)", "int shift(int,int)", "long root(int,int)", "int transform(int,int)",
        "int times(int)", "long value(int)", "int inverse(int)", "int multiply(int,int,int)", "int circular(int,int,int)",
        "int correlate(int,int)", "int slide(int,int)", "long high(int)", "long low(int)", "int carry(int,int)",
        "int cost(int,int,int)", "int plan(int,int)", "int power(int,int,int,int)", "int series(int,int,int)",
        "int divide(int,int,int)", "int evaluate(int,int,int)", "int interpolate(int,int,int)", "long residue(int)",
        "long rest(int)", "int match(int,int,long)", "int matchAt(int)", "int real(int,int)", "long realAt(int)",
        "int fault()", "int told(int)"));

    private static final Set<String> CONSTANTS =
        new TreeSet<>(List.of("UNKNOWN = -1", "OUTSIDE = -2", "STATE = -3", "FULL = -4", "NONE = -9"));

    public static void main(String[] args) throws IOException, IllegalAccessException {
        face();
        constants();
        classesInside();
        Path document = Path.of(args[0], "..", "shared", "DOC.md");
        if (Files.exists(document)) {
            faceOfTheDocument(Files.readString(document));
        } else {
            System.out.println("there is no " + document + ": its face is not looked at");
        }
        Path source = Path.of(args[0], "src", "main", "java", "ConvolutionBench.java");
        SourceRules.look(source);
        Check.holds("a character above 255", Files.readString(source).chars().allMatch(c -> c < 256));
        Check.end();
    }

    private static void face() {
        Class<?> bench = ConvolutionBench.class;
        Check.holds("the class is public and final",
            Modifier.isPublic(bench.getModifiers()) && Modifier.isFinal(bench.getModifiers()));
        Check.due("the class is made of nothing else", bench.getSuperclass(), Object.class);
        Check.due("the interfaces", bench.getInterfaces().length, 0);
        Set<String> seen = new TreeSet<>();
        Set<String> names = new HashSet<>();
        for (Method method : bench.getDeclaredMethods()) {
            if (Modifier.isPublic(method.getModifiers())) {
                seen.add(told(method));
                names.add(method.getName());
                Check.holds(method + " is asked of an object", !Modifier.isStatic(method.getModifiers()));
            }
        }
        Check.due("the public methods", seen, FACE);
        dueHiddenMethods(bench, names);
        for (Class<?> inside : bench.getDeclaredClasses()) {
            dueHiddenMethods(inside, names);
        }
        Constructor<?>[] made = bench.getDeclaredConstructors();
        Check.due("how many constructors", made.length, 1);
        Check.due("its parameters", made[0].getParameterCount(), 0);
        Check.holds("it is public", Modifier.isPublic(made[0].getModifiers()));
    }

    private static String told(Method method) {
        StringBuilder text = new StringBuilder();
        text.append(method.getReturnType()).append(' ').append(method.getName()).append('(');
        Class<?>[] types = method.getParameterTypes();
        for (int i = 0; i < types.length; i++) {
            text.append(i == 0 ? "" : ",").append(types[i]);
        }
        return text.append(')').toString();
    }

    private static void dueHiddenMethods(Class<?> owner, Set<String> publicNames) {
        for (Method method : owner.getDeclaredMethods()) {
            if (owner == ConvolutionBench.class && Modifier.isPublic(method.getModifiers())) {
                continue;
            }
            Check.holds(method + " bears a public name", !publicNames.contains(method.getName()));
            if (owner == ConvolutionBench.class) {
                Check.holds(method + " is private", Modifier.isPrivate(method.getModifiers()));
            }
        }
    }

    private static void constants() throws IllegalAccessException {
        Set<String> seen = new TreeSet<>();
        for (Field field : ConvolutionBench.class.getDeclaredFields()) {
            int modifiers = field.getModifiers();
            if (Modifier.isPublic(modifiers)) {
                Check.holds(field + " is a constant of int",
                    Modifier.isStatic(modifiers) && Modifier.isFinal(modifiers) && field.getType() == int.class);
                seen.add(field.getName() + " = " + field.getInt(null));
            } else {
                Check.holds(field + " is private", Modifier.isPrivate(modifiers));
            }
        }
        Check.due("the constants", seen, CONSTANTS);
    }

    private static void classesInside() {
        for (Class<?> one : ConvolutionBench.class.getDeclaredClasses()) {
            Check.holds(one + " is not public",
                !Modifier.isPublic(one.getModifiers()) && !Modifier.isProtected(one.getModifiers()));
        }
    }

    /** What is due above was written off the document; here it is read from it. */
    private static void faceOfTheDocument(String document) {
        Matcher block = Pattern.compile("(?s)## The public face\\s+```java\n(.*?)```").matcher(document);
        Check.holds("the document has a public face", block.find());
        Set<String> methods = new TreeSet<>();
        Matcher method = Pattern.compile("public (\\w+) (\\w+)\\((.*?)\\);").matcher(block.group(1));
        while (method.find()) {
            String types = method.group(3).replaceAll(" \\w+(?=,|$)", "").replace(" ", "");
            methods.add(method.group(1) + " " + method.group(2) + "(" + types + ")");
        }
        Check.due("the document's methods", methods, FACE);
        Matcher constants = Pattern.compile("public static final int (.*?);").matcher(block.group(1));
        Check.holds("the document has constants", constants.find());
        Check.due("the document's constants", new TreeSet<>(List.of(constants.group(1).split(", "))), CONSTANTS);
    }
}
