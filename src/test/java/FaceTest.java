import java.io.IOException;
import java.lang.reflect.Constructor;
import java.lang.reflect.Field;
import java.lang.reflect.Method;
import java.lang.reflect.Modifier;
import java.nio.file.Files;
import java.nio.file.Path;
import java.util.TreeSet;
import java.util.regex.Matcher;
import java.util.regex.Pattern;

/** The public face and the constants: they are those of the document, and nothing else is open. */
public final class FaceTest {
    private static final String[] METHODS = {
        "int beside(int,int)", "int apart(int,int)", "int apartAgain(int,int)",
        "int tower(int,int,int)", "int kite(int,int)", "int wind(int,int)",
        "int windNow(boolean)", "int towerOf(int,int)", "int kiteOf(int,int)",
        "int slip(int,int,int)", "int tear(int)", "int seen(int,int)", "int turn(int)",
        "int crossings()", "int crossingsAgain()", "int driftsTo(int,int)",
        "int bestDirection(int)", "int nearest(int,int)", "int append(int)", "int run()",
        "int tell(int)", "int tellKite(int)", "int character(int)", "int reason(boolean)",
        "int account(int)", "int isBalanced()", "double meanStrength()", "float lostShare()",
        "int undo()", "int save()", "int restore()"
    };
    /** The headings of the interface, each with the calls that it stands ahead of. */
    private static final String[] HEADINGS = {
        "---- the field: beside apart apartAgain",
        "---- towers, kites, winds: tower kite wind windNow towerOf kiteOf",
        "---- slips, turns: slip tear seen turn",
        "---- what there is, and would be: crossings crossingsAgain driftsTo bestDirection nearest",
        "---- texts, lines: append run tell tellKite character",
        "---- reasons, accounts, undo and the snapshot: reason account isBalanced meanStrength lostShare"
                + " undo save restore"
    };
    private static final String[] CONSTANTS = {"BAD", "FULL", "NONE", "NOTHING", "REFUSED"};

    private static String signature(Method method) {
        StringBuilder text = new StringBuilder();
        text.append(method.getReturnType().getName()).append(' ').append(method.getName()).append('(');
        String between = "";
        for (Class<?> type : method.getParameterTypes()) {
            text.append(between).append(type.getName());
            between = ",";
        }
        return text.append(')').toString();
    }

    private static void constants() {
        Check.due("NONE", KiteWar.NONE, -11);
        Check.due("BAD", KiteWar.BAD, -12);
        Check.due("FULL", KiteWar.FULL, -13);
        Check.due("REFUSED", KiteWar.REFUSED, -14);
        Check.due("NOTHING", KiteWar.NOTHING, -15);
        TreeSet<String> open = new TreeSet<>();
        for (Field field : KiteWar.class.getDeclaredFields()) {
            if (!Modifier.isPrivate(field.getModifiers())) {
                open.add(field.getName());
            }
        }
        Check.due("the open fields", String.join(" ", open), String.join(" ", CONSTANTS));
    }

    private static void methods() {
        TreeSet<String> due = new TreeSet<>();
        for (String method : METHODS) {
            due.add("public " + method);
        }
        TreeSet<String> open = new TreeSet<>();
        for (Method method : KiteWar.class.getDeclaredMethods()) {
            if (!Modifier.isPrivate(method.getModifiers())) {
                String access = Modifier.toString(method.getModifiers());
                open.add(access + " " + signature(method));
            }
        }
        Check.due("the open methods", String.join("; ", open), String.join("; ", due));
    }

    /** Rule 1 of LANGUAGE.md, for the classes inside, too. */
    private static void privateNames() {
        TreeSet<String> names = new TreeSet<>();
        for (Method method : KiteWar.class.getDeclaredMethods()) {
            if (Modifier.isPublic(method.getModifiers())) {
                names.add(method.getName());
            }
        }
        noneIsNamedAsOneOf(names, KiteWar.class);
        for (Class<?> inside : KiteWar.class.getDeclaredClasses()) {
            noneIsNamedAsOneOf(names, inside);
        }
    }

    private static void noneIsNamedAsOneOf(TreeSet<String> names, Class<?> owner) {
        for (Method method : owner.getDeclaredMethods()) {
            boolean isOfTheFace = Modifier.isPublic(method.getModifiers());
            String name = owner.getName() + "." + method.getName();
            Check.due("whether " + name + " is named as one of the face",
                    !isOfTheFace && names.contains(method.getName()) ? 1 : 0, 0);
        }
    }

    private static void headings(String source) {
        Matcher found = Pattern.compile("^    // (---- .*)$|^    public \\w+ (\\w+)\\(", Pattern.MULTILINE).matcher(source);
        StringBuilder face = new StringBuilder();
        while (found.find()) {
            boolean isCall = found.group(1) == null;
            face.append(isCall ? " " + found.group(2) : "\n" + found.group(1) + ":");
        }
        String due = "\n" + String.join("\n", HEADINGS);
        Check.due("the headings ahead of the calls", face.substring(0, Math.min(face.length(), due.length())), due);
    }

    private static void constructors() {
        Constructor<?>[] made = KiteWar.class.getDeclaredConstructors();
        Check.due("the constructors", made.length, 1);
        Check.due("the constructor's access", Modifier.toString(made[0].getModifiers()), "public");
        Check.due("the constructor's parameters", made[0].getParameterCount(), 0);
        Check.due("the class's access", Modifier.toString(KiteWar.class.getModifiers()), "public final");
    }

    public static void main(String[] args) throws IOException {
        constants();
        headings(Files.readString(Path.of(args[0])));
        methods();
        privateNames();
        constructors();
        Check.end();
    }
}
