import java.lang.reflect.Constructor;
import java.lang.reflect.Field;
import java.lang.reflect.Method;
import java.lang.reflect.Modifier;
import java.nio.file.Files;
import java.nio.file.Path;
import java.util.Set;
import java.util.TreeSet;
import java.util.regex.Pattern;

/** The public face of the document, and the rules of LANGUAGE.md that can be seen from outside. */
public final class FaceAndLanguage {
    private static final String SOURCE = "src/main/java/ThermostatColony.java";
    private static final String[] METHODS = {"addRoom 4", "setLink 3", "setThermostat 3", "setNumber 2", "warm 2",
            "service 1", "resetCutout 1", "room 2", "book 2", "link 2", "count 1", "appendCharacter 1", "clearText 0",
            "load 0", "outside 1", "pass 1", "minutesToSuspect 1", "heatIn 1", "finesWith 3", "quietBand 2", "undo 0"};
    private static final String[] CONSTANTS = {"INVALID_ARGUMENT", "ILLEGAL_STATE", "CAPACITY_EXCEEDED", "NONE"};

    public static void main(String[] args) throws Exception {
        methods();
        constants();
        constructors();
        classesInside();
        source();
        methodsStaySmall();
        objectsAreMadeInConstructors();
        Check.end("FaceAndLanguage");
    }

    private static void methods() {
        Set<String> due = new TreeSet<>(Set.of(METHODS));
        Set<String> names = new TreeSet<>();
        for (String method : METHODS) {
            names.add(method.substring(0, method.indexOf(' ')));
        }
        Set<String> found = new TreeSet<>();
        for (Method method : ThermostatColony.class.getDeclaredMethods()) {
            if (Modifier.isPublic(method.getModifiers())) {
                found.add(method.getName() + " " + method.getParameterCount());
                boolean ofInts = method.getReturnType() == int.class && !Modifier.isStatic(method.getModifiers());
                for (Class<?> type : method.getParameterTypes()) {
                    ofInts &= type == int.class;
                }
                Check.holds(method + " takes and answers int", ofInts);
            } else {
                Check.holds(method + " is private", Modifier.isPrivate(method.getModifiers()));
                Check.holds(method + " has no public name", !names.contains(method.getName()));
            }
        }
        Check.holds("the public methods are " + due + ", found " + found, due.equals(found));
    }

    private static void constants() throws Exception {
        Set<String> due = new TreeSet<>(Set.of(CONSTANTS));
        Set<String> found = new TreeSet<>();
        for (Field field : ThermostatColony.class.getDeclaredFields()) {
            int modifiers = field.getModifiers();
            if (Modifier.isPublic(modifiers)) {
                found.add(field.getName());
                Check.holds(field + " is a constant", Modifier.isStatic(modifiers) && Modifier.isFinal(modifiers)
                        && field.getType() == int.class);
            } else {
                Check.holds(field + " is private", Modifier.isPrivate(modifiers));
            }
        }
        Check.holds("the public constants are " + due + ", found " + found, due.equals(found));
    }

    private static void constructors() {
        Constructor<?>[] all = ThermostatColony.class.getDeclaredConstructors();
        Check.holds("one public constructor without parameters", all.length == 1
                && Modifier.isPublic(all[0].getModifiers()) && all[0].getParameterCount() == 0);
        Check.holds("the class is public and final", Modifier.isPublic(ThermostatColony.class.getModifiers())
                && Modifier.isFinal(ThermostatColony.class.getModifiers()));
    }

    private static void classesInside() {
        Class<?>[] inside = ThermostatColony.class.getDeclaredClasses();
        Check.holds("some twelve classes at most", inside.length <= 11);
        for (Class<?> one : inside) {
            Check.holds(one + " is private and static", Modifier.isPrivate(one.getModifiers())
                    && Modifier.isStatic(one.getModifiers()));
            Check.holds(one + " has some twenty fields at most", one.getDeclaredFields().length <= 20);
            for (Field field : one.getDeclaredFields()) {
                Check.holds(field + " is final if it is static", !Modifier.isStatic(field.getModifiers())
                        || Modifier.isFinal(field.getModifiers()));
            }
        }
    }

    private static void source() throws Exception {
        String code = Files.readString(Path.of(SOURCE)).replaceAll("(?s)/\\*.*?\\*/", "").replaceAll("//[^\n]*", "");
        String[] words = {"throw", "throws", "try", "catch", "finally", "synchronized", "assert", "import", "package",
                "System\\.(?!arraycopy)\\w+", "Thread", "Random", "Object", "Exact", "equals", "hashCode", "toString"};
        for (String word : words) {
            Check.holds("the class does without '" + word + "'", !Pattern.compile("\\b" + word + "\\b").matcher(code).find());
        }
        Check.holds("no lambda and no method reference", !code.contains("->") && !code.contains("::"));
        Check.holds("signs 1 to 127 alone", code.chars().allMatch(sign -> sign >= 1 && sign <= 127));
    }

    /** "A method takes at most seven parameters. Methods stay short (some sixty lines)" */
    private static void methodsStaySmall() throws Exception {
        String[] lines = Files.readString(Path.of(SOURCE)).split("\n");
        Pattern start = Pattern.compile("^ +[\\w<>\\[\\] ]+\\([\\w\\[\\], ]*\\) \\{$");
        int found = 0;
        for (int line = 0; line < lines.length; line++) {
            if (start.matcher(lines[line]).find() && !lines[line].contains(" new ")) {
                found++;
                String indent = lines[line].substring(0, lines[line].length() - lines[line].stripLeading().length());
                int end = line;
                while (!lines[end].equals(indent + "}")) {
                    end++;
                }
                Check.holds("'" + lines[line].strip() + "' is short", end - line <= 60);
                Check.holds("'" + lines[line].strip() + "' has few parameters", lines[line].split(",").length <= 7);
            }
        }
        Check.holds("the methods were found: " + found, found > 60);
    }

    /** README.md: "No call makes an object": each "new" is a field's, or stands in a constructor. */
    private static void objectsAreMadeInConstructors() throws Exception {
        Pattern field = Pattern.compile("^ +(private )?final [\\w\\[\\]]+ \\w+ = new .*;$");
        Pattern constructor = Pattern.compile("^ +(public )?[A-Z]\\w*\\(\\) \\{$");
        String ofConstructor = "";
        int found = 0;
        for (String line : Files.readString(Path.of(SOURCE)).split("\n")) {
            if (constructor.matcher(line).find()) {
                ofConstructor = line.substring(0, line.length() - line.stripLeading().length());
            } else if (line.equals(ofConstructor + "}")) {
                ofConstructor = "";
            }
            if (Pattern.compile("\\bnew\\b").matcher(line.replaceAll("^ *(/?\\*|//).*", "")).find()) {
                found++;
                Check.holds("'" + line.strip() + "' is made with the object",
                        field.matcher(line).find() || !ofConstructor.isEmpty());
            }
        }
        Check.holds("what is made was found: " + found, found > 10);
    }
}
