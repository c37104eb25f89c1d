import java.io.IOException;
import java.lang.reflect.Constructor;
import java.lang.reflect.Field;
import java.lang.reflect.Method;
import java.lang.reflect.Modifier;
import java.nio.file.Files;
import java.nio.file.Path;
import java.util.ArrayList;
import java.util.Arrays;
import java.util.List;
import java.util.Set;
import java.util.TreeSet;
import java.util.regex.Matcher;
import java.util.regex.Pattern;

/** The public face, and the rules of LANGUAGE.md that can be told from the class or its words. */
public final class FaceTest {
    private static final String[] METHODS = {
        "bar(int,boolean)", "count(int)", "fault()", "ifTick(int,int,int,boolean,int)", "leastReading(int,boolean)",
        "put(long)", "record(int,int)", "restore(int)", "run()", "save(int)", "sensor(int,int)", "service()",
        "set(int,int)", "stage(int,int)", "test(int)", "tick(int,int,int,boolean)", "ticksTo(int,int)", "undo()",
        "wipe()"};
    private static final String[] FORBIDDEN = {
        "throw", "throws", "try", "catch", "finally", "synchronized", "assert", "import", "package", "protected",
        "->", "::", "Exact", "MAX_VALUE", "MIN_VALUE", "System.out", "equals(Object", "hashCode", "toString"};

    public static void main(String[] args) throws IOException {
        constants();
        methods();
        members();
        sizes();
        words();
        Due.end();
    }

    private static void constants() {
        Due.is("NO_SUCH", VotedCharge.NO_SUCH, -1);
        Due.is("BAD_VALUE", VotedCharge.BAD_VALUE, -2);
        Due.is("BAD_TEXT", VotedCharge.BAD_TEXT, -3);
        Due.is("TOO_MANY", VotedCharge.TOO_MANY, -4);
        Due.is("NOT_POSSIBLE", VotedCharge.NOT_POSSIBLE, -5);
        Due.is("NONE", VotedCharge.NONE, -6);
        Due.is("LOW", VotedCharge.LOW, 0);
        Due.is("HIGH", VotedCharge.HIGH, 1);
        Due.is("HOLD", VotedCharge.HOLD, 2);
        Due.is("STUCK", VotedCharge.STUCK, 3);
        Due.is("FAR", VotedCharge.FAR, 4);
        Due.is("DELAY", VotedCharge.DELAY, 5);
    }

    private static void methods() {
        Set<String> found = new TreeSet<>();
        Set<String> bearers = new TreeSet<>();
        for (Method method : VotedCharge.class.getDeclaredMethods()) {
            if (Modifier.isPrivate(method.getModifiers())) {
                bearers.add(method.getName());
                continue;
            }
            found.add(signature(method));
            Due.is(method + " answers an int", method.getReturnType() == int.class ? 1 : 0, 1);
            Due.is(method + " is public", method.getModifiers(), Modifier.PUBLIC);
        }
        Due.is("the methods are " + found, found.equals(new TreeSet<>(Arrays.asList(METHODS))) ? 1 : 0, 1);
        for (String name : METHODS) {
            String bare = name.substring(0, name.indexOf('('));
            Due.is("a private method is called " + bare, bearers.contains(bare) ? 1 : 0, 0);
        }
    }

    private static String signature(Method method) {
        StringBuilder text = new StringBuilder(method.getName()).append('(');
        for (Class<?> type : method.getParameterTypes()) {
            text.append(text.charAt(text.length() - 1) == '(' ? "" : ",").append(type.getName());
        }
        return text.append(')').toString();
    }

    private static void members() {
        Due.is("the class is public and final", VotedCharge.class.getModifiers(), Modifier.PUBLIC | Modifier.FINAL);
        Constructor<?>[] constructors = VotedCharge.class.getDeclaredConstructors();
        Due.is("constructors", constructors.length, 1);
        Due.is("the constructor is public", constructors[0].getModifiers(), Modifier.PUBLIC);
        Due.is("the constructor's parameters", constructors[0].getParameterCount(), 0);
        int constants = 0;
        for (Field field : VotedCharge.class.getDeclaredFields()) {
            if (!Modifier.isPrivate(field.getModifiers())) {
                constants++;
                int due = Modifier.PUBLIC | Modifier.STATIC | Modifier.FINAL;
                Due.is(field + " is a constant", field.getModifiers(), due);
            }
        }
        Due.is("constants", constants, 12);
        for (Class<?> inside : VotedCharge.class.getDeclaredClasses()) {
            int modifiers = inside.getModifiers();
            boolean isHidden = !Modifier.isPublic(modifiers) && !Modifier.isProtected(modifiers);
            Due.is(inside + " is static and not of the face", Modifier.isStatic(modifiers) && isHidden ? 1 : 0, 1);
        }
    }

    private static void sizes() {
        List<Class<?>> classes = new ArrayList<>(Arrays.asList(VotedCharge.class.getDeclaredClasses()));
        classes.add(VotedCharge.class);
        Due.is("classes: " + classes.size() + ", at most 12", classes.size() <= 12 ? 1 : 0, 1);
        for (Class<?> each : classes) {
            int fields = 0;
            for (Field field : each.getDeclaredFields()) {
                boolean isStatic = Modifier.isStatic(field.getModifiers());
                fields += isStatic ? 0 : 1;
                Due.is(field + " is final or not static", !isStatic || Modifier.isFinal(field.getModifiers()) ? 1 : 0, 1);
            }
            Due.is(each + " has " + fields + " fields, at most 20", fields <= 20 ? 1 : 0, 1);
            for (Method method : each.getDeclaredMethods()) {
                Due.is(method + " takes at most seven parameters", method.getParameterCount() <= 7 ? 1 : 0, 1);
            }
        }
    }

    private static void words() throws IOException {
        Path program = Path.of("src", "main", "java", "VotedCharge.java");
        String source = Files.readString(program).replaceAll("(?s)/\\*.*?\\*/", " ").replaceAll("//[^\n]*", " ");
        for (String word : FORBIDDEN) {
            String edge = Character.isLetter(word.charAt(0)) && !word.equals("Exact") ? "\\b" : "";
            Matcher matcher = Pattern.compile(edge + Pattern.quote(word)).matcher(source);
            Due.is("the program has the word " + word, matcher.find() ? 1 : 0, 0);
        }
        Due.is("signs above 127", source.chars().filter(sign -> sign > 127).count(), 0);
    }
}
