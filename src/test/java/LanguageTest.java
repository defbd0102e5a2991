import java.io.IOException;
import java.lang.reflect.Constructor;
import java.lang.reflect.Field;
import java.lang.reflect.Method;
import java.lang.reflect.Modifier;
import java.nio.file.Files;
import java.nio.file.Path;
import java.util.Arrays;
import java.util.HashSet;
import java.util.List;
import java.util.Set;
import java.util.TreeSet;
import java.util.regex.Matcher;
import java.util.regex.Pattern;

/** The public face, and the rules of LANGUAGE.md that can be read off the class or its source. */
public final class LanguageTest {
    private static final List<String> FACE = List.of(
        "int row(int,int,int)", "int share(int,int)", "int kind(int,int)", "int put(int,int,long)", "long at(int,int)",
        "long as(int,int,int)", "int reverse(int)", "int shift(int,int)", "long root(int,int)", "int transform(int,int)",
        "int times(int)", "long value(int)", "int inverse(int)", "int multiply(int,int,int)", "int circular(int,int,int)",
        "int correlate(int,int)", "int slide(int,int)", "long high(int)", "long low(int)", "int carry(int,int)",
        "int cost(int,int,int)", "int plan(int,int)", "int power(int,int,int,int)", "int series(int,int,int)",
        "int divide(int,int,int)", "int evaluate(int,int,int)", "int interpolate(int,int,int)", "long residue(int)",
        "long rest(int)", "int match(int,int,long)", "int matchAt(int)", "int real(int,int)", "long realAt(int)",
        "int fault()", "int told(int)");

    private static final List<String> CALLS = List.of(
        "Math.max", "Math.min", "Math.abs", "Math.floorMod", "Math.floorDiv", "Arrays.fill", "Arrays.copyOf",
        "Arrays.copyOfRange", "System.arraycopy");

    public static void main(String[] args) throws IOException {
        face();
        classesInside();
        String source = Files.readString(Path.of(args[0], "src", "main", "java", "ConvolutionBench.java"));
        words(withoutComments(source));
        Check.end();
    }

    private static void face() {
        Class<?> bench = ConvolutionBench.class;
        Check.holds("the class is public and final",
            Modifier.isPublic(bench.getModifiers()) && Modifier.isFinal(bench.getModifiers()));
        Set<String> seen = new TreeSet<>();
        Set<String> names = new HashSet<>();
        for (Method method : bench.getDeclaredMethods()) {
            if (Modifier.isPublic(method.getModifiers())) {
                seen.add(told(method));
                names.add(method.getName());
                Check.holds(method + " throws nothing that is named", method.getExceptionTypes().length == 0);
            }
        }
        Check.due("the public methods", seen, new TreeSet<>(FACE));
        dueHiddenMethods(bench, names);
        for (Class<?> inside : bench.getDeclaredClasses()) {
            dueHiddenMethods(inside, names);
        }
        Set<String> constants = new TreeSet<>();
        for (Field field : bench.getDeclaredFields()) {
            if (Modifier.isPublic(field.getModifiers())) {
                constants.add(field.getName());
            } else {
                Check.holds(field + " is private", Modifier.isPrivate(field.getModifiers()));
            }
        }
        Check.due("the constants", constants, new TreeSet<>(List.of("UNKNOWN", "OUTSIDE", "STATE", "FULL", "NONE")));
        Constructor<?>[] made = bench.getDeclaredConstructors();
        Check.due("how many constructors", made.length, 1);
        Check.due("its parameters", made[0].getParameterCount(), 0);
    }

    private static String told(Method method) {
        StringBuilder text = new StringBuilder();
        text.append(method.getReturnType()).append(' ').append(method.getName()).append('(');
        Class<?>[] types = method.getParameterTypes();
        for (int i = 0; i < types.length; i++) {
            text.append(i == 0 ? "" : ",").append(types[i]);
        }
        return text.append(')').toString();
    }

    private static void dueHiddenMethods(Class<?> owner, Set<String> publicNames) {
        for (Method method : owner.getDeclaredMethods()) {
            Check.holds(method + " takes at most seven parameters", method.getParameterCount() <= 7);
            if (owner == ConvolutionBench.class && Modifier.isPublic(method.getModifiers())) {
                continue;
            }
            Check.holds(method + " bears a public name", !publicNames.contains(method.getName()));
            if (owner == ConvolutionBench.class) {
                Check.holds(method + " is private", Modifier.isPrivate(method.getModifiers()));
            }
        }
    }

    private static void classesInside() {
        Class<?>[] inside = ConvolutionBench.class.getDeclaredClasses();
        Check.holds("at most twelve classes", inside.length + 1 <= 12);
        for (Class<?> one : inside) {
            Check.holds(one + " is static", Modifier.isStatic(one.getModifiers()));
            Check.holds(one + " is not public",
                !Modifier.isPublic(one.getModifiers()) && !Modifier.isProtected(one.getModifiers()));
            int held = 0;
            for (Field field : one.getDeclaredFields()) {
                if (Modifier.isStatic(field.getModifiers())) {
                    Check.holds(field + " is a final int or long", Modifier.isFinal(field.getModifiers())
                        && Arrays.<Class<?>>asList(int.class, long.class).contains(field.getType()));
                } else {
                    held++;
                }
            }
            Check.holds(one + " has at most twenty fields", held <= 20);
        }
    }

    private static String withoutComments(String source) {
        return source.replaceAll("(?s)/\\*.*?\\*/", " ").replaceAll("//[^\n]*", " ");
    }

    private static void words(String code) {
        String[] forbidden = {"throw", "throws", "try", "catch", "synchronized", "assert", "native", "volatile", "package",
            "Object", "Double", "Float", "BigInteger", "Long", "String", "Exception", "Thread", "Random", "equals",
            "hashCode", "toString", "protected", "NaN"};
        for (String word : forbidden) {
            Check.holds("the word " + word, !Pattern.compile("\\b" + word + "\\b").matcher(code).find());
        }
        Check.holds("a lambda or a method reference", !code.contains("->") && !code.contains("::"));
        Check.holds("a call that ends in Exact", !Pattern.compile("Exact\\s*\\(").matcher(code).find());
        Matcher imports = Pattern.compile("import\\s+([\\w.]+);").matcher(code);
        while (imports.find()) {
            Check.due("an import", imports.group(1), "java.util.Arrays");
        }
        Matcher calls = Pattern.compile("\\b((?:Math|Integer|Long|Arrays|System)\\.\\w+)").matcher(code);
        while (calls.find()) {
            Check.holds("the library's " + calls.group(1), CALLS.contains(calls.group(1)));
        }
        for (int i = 0; i < code.length(); i++) {
            Check.holds("a character above 255", code.charAt(i) < 256);
        }
    }
}
