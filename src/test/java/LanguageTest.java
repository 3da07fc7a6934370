import java.lang.reflect.Constructor;
import java.lang.reflect.Field;
import java.lang.reflect.Method;
import java.lang.reflect.Modifier;
import java.nio.file.Files;
import java.nio.file.Path;
import java.util.ArrayList;
import java.util.Arrays;
import java.util.List;
import java.util.regex.Matcher;
import java.util.regex.Pattern;

/** The public face of the document, and the rules of LANGUAGE.md that can be looked for. */
public final class LanguageTest {
    private static final String SOURCE = "src/main/java/FiddlePlates.java";

    private static final String[] FACE = {
        "plate 4", "thick 2", "least 1", "shave 2", "undo 1", "mirror 1", "tone 4", "below 4", "bond 3", "tap 4",
        "untap 1", "woods 0", "wood 2", "span 3", "next 2", "aim 3", "aimless 0", "plan 1", "planned 2", "carve 1",
        "off 1", "even 2", "count 1"
    };

    private static int wrong = 0;

    public static void main(String[] args) throws Exception {
        face();
        insideNames(FiddlePlates.class);
        words();
        noCallMakesObjects();
        System.out.println(wrong == 0 ? "the face and the rules are kept" : wrong + " rules are not kept");
        if (wrong != 0) System.exit(1);
    }

    private static void tell(boolean kept, String what) {
        if (!kept) {
            wrong++;
            System.out.println("not kept: " + what);
        }
    }

    private static void face() {
        Class<?> c = FiddlePlates.class;
        tell(Modifier.isPublic(c.getModifiers()) && Modifier.isFinal(c.getModifiers()), "public and final");
        List<String> seen = new ArrayList<>();
        for (Method m : c.getDeclaredMethods()) {
            if (m.isSynthetic() || Modifier.isPrivate(m.getModifiers())) continue;
            seen.add(m.getName() + " " + m.getParameterCount());
            tell(m.getModifiers() == Modifier.PUBLIC, m.getName() + " is public alone");
            tell(m.getReturnType() == int.class, m.getName() + " answers an int");
            for (Class<?> type : m.getParameterTypes()) tell(type == int.class, m.getName() + " takes ints");
        }
        for (String due : FACE) tell(seen.remove(due), "the face has " + due);
        tell(seen.isEmpty(), "nothing more is visible: " + seen);
        Constructor<?>[] made = c.getDeclaredConstructors();
        tell(made.length == 1 && Modifier.isPublic(made[0].getModifiers()) && made[0].getParameterCount() == 0,
                "one public constructor");
        List<String> constants = new ArrayList<>(Arrays.asList("NONE", "BAD", "NOT", "FULL"));
        for (Field f : c.getDeclaredFields()) {
            if (Modifier.isPrivate(f.getModifiers())) continue;
            tell(constants.remove(f.getName()), "no field is visible: " + f.getName());
        }
        tell(constants.isEmpty(), "the constants are there: " + constants);
    }

    /** Rules 1, 2, 5, 11. */
    private static void insideNames(Class<?> c) {
        tell(c.getDeclaredClasses().length <= 11, "at most twelve classes");
        List<Class<?>> all = new ArrayList<>(Arrays.asList(c.getDeclaredClasses()));
        for (Class<?> inside : all) {
            tell(Modifier.isStatic(inside.getModifiers()), inside + " is static");
            tell(!Modifier.isPublic(inside.getModifiers()), inside + " is not public");
            for (Method m : inside.getDeclaredMethods()) {
                for (String due : FACE) {
                    tell(!due.startsWith(m.getName() + " "), "no method inside is called as one of the face: " + m);
                }
            }
        }
        all.add(c);
        for (Class<?> each : all) {
            int fields = 0;
            for (Field f : each.getDeclaredFields()) {
                boolean constant = Modifier.isStatic(f.getModifiers());
                if (!constant) fields++;
                tell(!constant || Modifier.isFinal(f.getModifiers()), "static fields are final: " + f);
            }
            tell(fields <= 20, each + " has at most twenty fields");
            List<String> names = new ArrayList<>();
            for (Method m : each.getDeclaredMethods()) {
                tell(m.getParameterCount() <= 7, m + " takes at most seven");
                tell(!names.contains(m.getName()), "one method a name: " + m);
                names.add(m.getName());
            }
        }
    }

    /** Rules 3, 4, 6, 13, on the source without its comments. */
    private static void words() throws Exception {
        String source = Files.readString(Path.of(SOURCE));
        String code = source.replaceAll("(?s)/\\*.*?\\*/", "").replaceAll("//[^\n]*", "");
        String[] banned = {
            "throw", "throws", "try", "catch", "finally", "synchronized", "assert", "package", "hashCode", "toString",
            "equals", "Exception", "Error", "Object", "HashMap", "Map", "Set", "Random", "System", "Thread", "double",
            "float", "var", "volatile", "transient", "native", "protected"
        };
        for (String word : banned) {
            tell(!Pattern.compile("\\b" + word + "\\b").matcher(code).find(), "no word '" + word + "'");
        }
        tell(!code.contains("->") && !code.contains("::"), "no lambda, no method reference");
        tell(!code.contains("\""), "no texts");
        Matcher imports = Pattern.compile("\\bimport\\s+([^;]*);").matcher(code);
        while (imports.find()) tell(imports.group(1).equals("java.util.Arrays"), "import of " + imports.group(1));
        Matcher library = Pattern.compile("\\b(Arrays|Math|Integer|Long)\\.(\\w+)").matcher(code);
        List<String> fine = Arrays.asList("Arrays.fill", "Math.min", "Math.max", "Math.abs");
        while (library.find()) tell(fine.contains(library.group()), "library: " + library.group());
        for (char c : source.toCharArray()) {
            if (c > 126) {
                tell(false, "plain characters alone");
                break;
            }
        }
    }

    /** The room of a run: an object and its 512 calls make little. */
    private static void noCallMakesObjects() {
        if (!(java.lang.management.ManagementFactory.getThreadMXBean() instanceof com.sun.management.ThreadMXBean bean)) {
            return;
        }
        long id = Thread.currentThread().getId();
        long least = Long.MAX_VALUE;
        // the machine may make something of its own the first times
        for (int i = 0; i < 10; i++) {
            FiddlePlates x = new FiddlePlates();
            long before = bean.getThreadAllocatedBytes(id);
            callAll(x);
            least = Math.min(least, bean.getThreadAllocatedBytes(id) - before);
        }
        tell(least <= 0, "calls make no objects, but " + least + " bytes were made");
    }

    private static void callAll(FiddlePlates x) {
        x.plate(9, 9, 9, 9);
        x.plate(8, 7, 6, 5);
        x.thick(0, 0);
        x.least(3);
        x.shave(0, 0);
        x.undo(0);
        x.mirror(0);
        x.tone(0, 9, 1, 3);
        x.below(0, 9, 1, 200);
        x.bond(0, 9, 1);
        x.tap(0, 3, 10, 60);
        x.tap(1, 1, 0, 20);
        x.untap(0);
        x.woods();
        x.wood(0, 0);
        x.span(0, 1, 1);
        x.next(0, 1);
        x.aim(3, 0, 90);
        x.plan(0);
        x.planned(0, 1);
        x.carve(0);
        x.off(3);
        x.even(0, 1);
        x.aimless();
        x.count(3);
    }
}
