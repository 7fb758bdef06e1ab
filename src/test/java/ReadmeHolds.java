import java.io.File;
import java.lang.reflect.Field;
import java.lang.reflect.Method;
import java.lang.reflect.Modifier;
import java.nio.file.Files;
import java.nio.file.Path;
import java.util.ArrayList;
import java.util.List;
import java.util.Set;
import java.util.TreeSet;
import java.util.regex.Matcher;
import java.util.regex.Pattern;

/** Tries what README.md says: its commands, its example and its tables. */
public final class ReadmeHolds {
    private static final Pattern CALL = Pattern.compile("`(\\w+)\\(([-\\w, ]*)\\)`");
    private static final Pattern CODE = Pattern.compile("INVALID_ARGUMENT|ILLEGAL_STATE|CAPACITY_EXCEEDED");

    private final String page;
    private final String document;

    private ReadmeHolds(String page, String document) {
        this.page = page;
        this.document = document;
    }

    public static void main(String[] args) throws Exception {
        ReadmeHolds test = new ReadmeHolds(Files.readString(Path.of("README.md")),
                Files.readString(Path.of("../shared/DOC.md")));
        test.exampleIsSaved();
        test.commands();
        test.calls();
        test.constants();
        test.whats();
        test.numbers();
        test.callsThatUndoTakesBack();
        test.runCallByCall();
        test.tests();
        Check.end("ReadmeHolds");
    }

    /** "Save this as `build/Example.java`" */
    private void exampleIsSaved() throws Exception {
        Files.createDirectories(Path.of("build"));
        Files.writeString(Path.of("build/Example.java"), block("Save this as `build/Example.java`:", "```java\n"));
    }

    /** The commands, in their order; behind the example's stands what it prints. */
    private void commands() throws Exception {
        int found = 0;
        for (String line : page.split("\n")) {
            if (line.startsWith("    javac ") || line.startsWith("    java ")) {
                found++;
                String printed = run(line.strip().split(" +"));
                if (line.endsWith(" Example")) {
                    String due = block("It prints:", "```\n");
                    Check.holds("'" + line.strip() + "' prints\n" + due + "but printed\n" + printed, printed.equals(due));
                }
            }
        }
        Check.due("commands on the page", found, 5);
        Check.holds(".ci/run can be run", page.contains("\n    .ci/run\n") && Files.isExecutable(Path.of(".ci/run")));
    }

    private static String run(String[] command) throws Exception {
        Process process = new ProcessBuilder(command).redirectErrorStream(true).start();
        process.getOutputStream().close();
        String printed = new String(process.getInputStream().readAllBytes()).replace("\r\n", "\n");
        int code = process.waitFor();
        Check.holds(String.join(" ", command) + " ended with " + code + ": " + printed, code == 0);
        return printed;
    }

    /** What stands between fences, the first time behind those words. */
    private String block(String words, String fence) {
        int start = page.indexOf(fence, page.indexOf(words)) + fence.length();
        return page.substring(start, page.indexOf("```", start));
    }

    /** The rows of the table that begins with those cells, without its head. */
    private List<String[]> table(String head) {
        List<String[]> rows = new ArrayList<>();
        int start = page.indexOf(head);
        Check.holds("there is a table " + head, start >= 0);
        String[] lines = page.substring(Math.max(start, 0)).split("\n");
        for (int line = 2; line < lines.length && lines[line].startsWith("|"); line++) {
            String[] cells = lines[line].substring(1).split("\\|", -1);
            for (int cell = 0; cell < cells.length; cell++) {
                cells[cell] = cells[cell].strip();
            }
            rows.add(cells);
        }
        return rows;
    }

    private static Method method(String name) {
        for (Method method : ThermostatColony.class.getDeclaredMethods()) {
            if (Modifier.isPublic(method.getModifiers()) && method.getName().equals(name)) {
                return method;
            }
        }
        throw new IllegalArgumentException("no method " + name);
    }

    private static Set<String> publicMethods() {
        Set<String> names = new TreeSet<>();
        for (Method method : ThermostatColony.class.getDeclaredMethods()) {
            if (Modifier.isPublic(method.getModifiers())) {
                names.add(method.getName());
            }
        }
        return names;
    }

    private static List<String> codes(String text) {
        List<String> found = new ArrayList<>();
        Matcher code = CODE.matcher(text);
        while (code.find()) {
            found.add(code.group());
        }
        return found;
    }

    /** Each method with its parameters and its error codes, as the document has them. */
    private void calls() {
        Set<String> named = new TreeSet<>();
        for (String[] row : table("| call | answer | error codes")) {
            Matcher call = CALL.matcher(row[0]);
            Check.holds(row[0] + " is a call", call.matches());
            String name = call.group(1);
            named.add(name);
            String signature = "`int " + name + "(";
            int start = document.indexOf(signature) + signature.length();
            String parameters = document.substring(start, document.indexOf(")", start)).replace("int ", "");
            Check.holds(name + " has the parameters " + parameters, call.group(2).equals(parameters));
            // The promise ends at the next heading, and its last "Returns" tells the answers.
            int returns = document.lastIndexOf("\nReturns ", document.indexOf("\n## ", start)) + 1;
            String sentence = document.substring(returns, document.indexOf("\n", returns));
            Check.holds(name + " has the error codes of: " + sentence, codes(row[2]).equals(codes(sentence)));
            Check.holds(name + " tells of NONE", !sentence.contains("NONE") || row[1].contains("`NONE`"));
        }
        Check.holds("all methods are named: " + named, named.equals(publicMethods()));
    }

    private void constants() throws Exception {
        List<String[]> rows = table("| constant | value |");
        Check.due("constants", rows.size(), 4);
        for (String[] row : rows) {
            Field constant = ThermostatColony.class.getField(row[0].replace("`", ""));
            Check.due(row[0], constant.getInt(null), Integer.parseInt(row[1]));
        }
    }

    /** A cell is empty just where the answer is INVALID_ARGUMENT. */
    private void whats() {
        ThermostatColony colony = new ThermostatColony();
        colony.addRoom(100, 50, 10, 18);
        List<String[]> rows = table("| `what` | `room(room, what)` |");
        for (int what = -1; what <= rows.size(); what++) {
            String[] row = what >= 0 && what < rows.size() ? rows.get(what) : new String[] {"" + what, "", "", ""};
            Check.holds("row " + row[0] + " stands in its place", row[0].equals("" + what));
            Check.holds("room(0, " + what + ")", isInvalid(colony.room(0, what)) == row[1].isEmpty());
            Check.holds("book(0, " + what + ")", isInvalid(colony.book(0, what)) == row[2].isEmpty());
            Check.holds("count(" + what + ")", isInvalid(colony.count(what)) == row[3].isEmpty());
        }
    }

    private static boolean isInvalid(int answer) {
        return answer == Colonies.INVALID;
    }

    private void numbers() {
        List<String[]> rows = table("| `what` | number | from | to | at first |");
        Check.due("numbers", rows.size(), 7);
        for (int what = 0; what < rows.size(); what++) {
            String[] row = rows.get(what);
            ThermostatColony colony = new ThermostatColony();
            int least = Integer.parseInt(row[2]);
            int most = Integer.parseInt(row[3]);
            Check.due("the place of " + row[1], Integer.parseInt(row[0]), what);
            Check.due(row[1] + " at first", colony.count(what), Integer.parseInt(row[4]));
            Check.due(row[1] + " below", colony.setNumber(what, least - 1), Colonies.INVALID);
            Check.due(row[1] + " above", colony.setNumber(what, most + 1), Colonies.INVALID);
            Check.due(row[1] + " least", colony.setNumber(what, least), Integer.parseInt(row[4]));
            Check.due(row[1] + " most", colony.setNumber(what, most), least);
        }
    }

    /** The calls that the page names are those that the document names. */
    private void callsThatUndoTakesBack() {
        String start = "Every successful call of ";
        int from = document.indexOf(start) + start.length();
        String due = document.substring(from, document.indexOf(" saves the state", from));
        int place = page.indexOf("`undo()` takes back the latest successful call of ");
        Check.holds("the page tells what undo() takes back", place >= 0);
        String said = page.substring(Math.max(place, 0), page.indexOf(";", Math.max(place, 0)));
        Set<String> wanted = words(due, "(\\w+)\\(\\)");
        Check.holds("undo() takes back " + wanted, wanted.size() == 9 && words(said, "`(\\w+)`").equals(wanted));
    }

    private static Set<String> words(String text, String pattern) {
        Set<String> found = new TreeSet<>();
        Matcher word = Pattern.compile(pattern).matcher(text);
        while (word.find()) {
            found.add(word.group(1));
        }
        return found;
    }

    private void runCallByCall() throws Exception {
        ThermostatColony colony = new ThermostatColony();
        Set<String> made = new TreeSet<>();
        for (String[] row : table("| call | answer | what it says |")) {
            Matcher call = CALL.matcher(row[0]);
            Check.holds(row[0] + " is a call", call.matches());
            made.add(call.group(1));
            String[] given = call.group(2).isEmpty() ? new String[0] : call.group(2).split(", ");
            Object[] values = new Object[given.length];
            for (int i = 0; i < given.length; i++) {
                values[i] = Integer.valueOf(given[i]);
            }
            int answer = (Integer) method(call.group(1)).invoke(colony, values);
            Check.due("the page's run: " + row[0], answer, Integer.parseInt(row[1]));
            saysTheCode(row, answer);
        }
        Check.holds("all methods are called: " + made, made.equals(publicMethods()));
    }

    private static void saysTheCode(String[] row, int answer) throws Exception {
        for (String name : new String[] {"INVALID_ARGUMENT", "ILLEGAL_STATE", "CAPACITY_EXCEEDED", "NONE"}) {
            boolean isIt = ThermostatColony.class.getField(name).getInt(null) == answer;
            Check.holds(row[0] + " is told to be " + name, row[2].startsWith("`" + name + "`") == isIt);
        }
    }

    /** The table of tests has each test, and no other. */
    private void tests() {
        Set<String> named = new TreeSet<>();
        for (String[] row : table("| test | what it tests |")) {
            named.add(row[0].replace("`", "") + ".java");
        }
        Set<String> there = new TreeSet<>();
        for (File file : new File("src/test/java").listFiles()) {
            if (file.getName().endsWith(".java")) {
                there.add(file.getName());
            }
        }
        Check.holds("the tests are " + there + ", named are " + named, named.equals(there));
    }
}
