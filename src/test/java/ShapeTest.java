import java.io.IOException;
import java.nio.file.Files;
import java.nio.file.Path;
import java.util.ArrayList;
import java.util.LinkedHashMap;
import java.util.List;
import java.util.Map;
import java.util.regex.Matcher;
import java.util.regex.Pattern;

/**
 * Rules 8, 11 and 12 of LANGUAGE.md, as far as the source's lines tell: nothing calls itself, calls
 * go at most eight deep, functions are short, and objects are made in constructors alone.
 */
public final class ShapeTest {
    private static final int MOST_LINES = 60;
    private static final int MOST_PARAMETERS = 7;
    private static final int MOST_DEEP = 8;
    private static final int MOST_FIELDS = 20;
    private static final Pattern CLASS = Pattern.compile("^ *(?:public |private |static |final )*class (\\w+) \\{");
    private static final Pattern HEAD =
            Pattern.compile("^( {4}| {8})((?:private |public |static )*[\\w\\[\\]]+ )?(\\w+)\\(([^()]*)\\) \\{$");
    private static final Pattern FIELD =
            Pattern.compile("^(?: {4}| {8})(?:private )?(?:final )?(?!static |return )[\\w\\[\\]]+ \\w+;$");
    private static final Pattern CALL = Pattern.compile("(new )?\\b([A-Za-z]\\w*)\\(");

    private final Map<String, List<String>> bodies = new LinkedHashMap<>();
    private final Map<String, Integer> fields = new LinkedHashMap<>();
    private final Map<String, Integer> depths = new LinkedHashMap<>();

    private void read(List<String> source) {
        String owner = "";
        for (int at = 0; at < source.size(); at++) {
            Matcher opened = CLASS.matcher(source.get(at));
            Matcher head = HEAD.matcher(source.get(at));
            if (opened.find()) {
                owner = opened.group(1);
            } else if (FIELD.matcher(source.get(at)).find()) {
                fields.merge(owner, 1, Integer::sum);
            } else if (head.find()) {
                int end = at;
                while (!source.get(end).equals(head.group(1) + "}")) {
                    end++;
                }
                readFunction(owner, head, source.subList(at, end + 1));
                at = end;
            }
        }
    }

    private void readFunction(String owner, Matcher head, List<String> lines) {
        String name = owner + "." + head.group(3);
        Check.due("whether " + name + " is too long", lines.size() > MOST_LINES ? lines.size() : 0, 0);
        int parameters = head.group(4).isEmpty() ? 0 : head.group(4).split(",").length;
        Check.due("whether " + name + " takes too many parameters", parameters > MOST_PARAMETERS ? parameters : 0, 0);
        boolean isConstructor = head.group(3).equals(owner);
        String body = String.join("\n", lines.subList(1, lines.size()));
        boolean makesObjects = !isConstructor && body.contains("new ");
        Check.due("whether " + name + ", which is no constructor, makes an object", makesObjects ? 1 : 0, 0);
        bodies.put(name, List.of(body));
    }

    /** Calls are told apart by the name alone, so that the depth is rather told too great than too small. */
    private List<String> calledBy(String function) {
        List<String> called = new ArrayList<>();
        Matcher call = CALL.matcher(bodies.get(function).get(0));
        while (call.find()) {
            for (String other : bodies.keySet()) {
                if (!other.equals(function) && other.endsWith("." + call.group(2))) {
                    called.add(other);
                }
            }
            boolean isOfMath = call.start() > 0 && bodies.get(function).get(0).startsWith("Math.", call.start() - 5);
            if (isOfMath) {
                called.add("Math");
            }
        }
        return called;
    }

    private int depthOf(String function, List<String> open) {
        Check.due("whether " + function + " calls itself by " + open, open.contains(function) ? 1 : 0, 0);
        if (function.equals("Math") || open.contains(function)) {
            return 1;
        }
        if (!depths.containsKey(function)) {
            List<String> deeper = new ArrayList<>(open);
            deeper.add(function);
            int deepest = 0;
            for (String called : calledBy(function)) {
                deepest = Math.max(deepest, depthOf(called, deeper));
            }
            depths.put(function, deepest + 1);
        }
        return depths.get(function);
    }

    public static void main(String[] args) throws IOException {
        ShapeTest shape = new ShapeTest();
        shape.read(Files.readAllLines(Path.of(args[0])));
        Check.due("whether the functions were found", shape.bodies.size() > 100 ? 1 : 0, 1);
        for (String owner : shape.fields.keySet()) {
            int fields = shape.fields.get(owner);
            Check.due("whether " + owner + " has too many fields", fields > MOST_FIELDS ? fields : 0, 0);
        }
        for (String function : shape.bodies.keySet()) {
            int depth = shape.depthOf(function, List.of());
            Check.due("whether " + function + " goes too deep", depth > MOST_DEEP ? depth : 0, 0);
        }
        Check.end();
    }
}
