import java.lang.reflect.Constructor;
import java.lang.reflect.Field;
import java.lang.reflect.Member;
import java.lang.reflect.Method;
import java.lang.reflect.Modifier;
import java.nio.file.Files;
import java.nio.file.Path;
import java.util.Arrays;
import java.util.Set;
import java.util.TreeSet;
import java.util.regex.Matcher;
import java.util.regex.Pattern;

/** The public face of the document, and the rules of LANGUAGE.md that can be read off the class. */
public final class FaceTest {
    private static final Check CHECK = new Check("FaceTest");

    private static final Path DOCUMENT = Path.of("../shared/DOC.md");

    private static final String[] METHODS = {
        "setCapacity(int,int)", "setWorking(int,boolean)", "setReserve(int)", "setRestartGap(int)",
        "setOverloadLimit(int)", "setCooldownTime(int)", "budget()", "available()",
        "setEnabled(int,boolean)", "setPriority(int,int)", "connect(int,int,int,int,int)",
        "disconnect(int)", "setLoad(int,int)", "setRequest(int,int)", "request(int)",
        "eligiblePorts()", "poweredPorts()", "grant(int)", "overload(int)", "cooldown(int)",
        "advance(int)", "clock()", "eventCount()", "eventTime(int)", "eventPort(int)",
        "eventKind(int)", "shedIfFails(int)", "fittingPorts()", "secondsToStable()",
        "stablePorts()", "save(int)", "restore(int)"};

    private static final String[] CONSTANTS = {
        "NO_SUCH_INDEX=-1", "BAD_VALUE=-2", "BAD_STATE=-3", "NO_BUDGET=-5", "NONE=-6",
        "POWERED=0", "SHED=1", "CUT=2"};

    public static void main(String[] args) throws Exception {
        members();
        document();
        nestedClasses();
        sizes();
        source();
        CHECK.end();
    }

    private static void same(String what, Set<String> got, Set<String> due) {
        CHECK.due(what + " " + got, got.equals(due) ? 1 : 0, 1);
    }

    private static void members() throws Exception {
        Class<?> face = PoeSwitch.class;
        CHECK.due("public final", face.getModifiers(), Modifier.PUBLIC | Modifier.FINAL);
        Set<String> methods = new TreeSet<>();
        for (Method method : face.getDeclaredMethods()) {
            if (isPrivate(method)) {
                continue;
            }
            String parameters = Arrays.toString(method.getParameterTypes()).replaceAll("[\\[\\] ]", "");
            methods.add(method.getName() + "(" + parameters + ")");
            CHECK.due("public int " + method.getName(), method.getReturnType() == int.class
                    && method.getModifiers() == Modifier.PUBLIC ? 1 : 0, 1);
        }
        same("methods", methods, new TreeSet<>(Arrays.asList(METHODS)));
        Set<String> constants = new TreeSet<>();
        for (Field field : face.getDeclaredFields()) {
            if (!isPrivate(field)) {
                constants.add(field.getName() + "=" + field.getInt(null));
            }
        }
        same("constants", constants, new TreeSet<>(Arrays.asList(CONSTANTS)));
        Constructor<?>[] constructors = face.getDeclaredConstructors();
        CHECK.due("constructors", constructors.length, 1);
        CHECK.due("its parameters", constructors[0].getParameterCount(), 0);
        CHECK.due("is public", constructors[0].getModifiers(), Modifier.PUBLIC);
    }

    /** The lists above are the document's: its face, and the signature of each promise. */
    private static void document() throws Exception {
        if (!Files.isRegularFile(DOCUMENT)) {
            System.out.println("no " + DOCUMENT + " here: the face is not compared with it");
            return;
        }
        Set<String> face = new TreeSet<>();
        Set<String> promised = new TreeSet<>();
        Set<String> constants = new TreeSet<>();
        for (String line : Files.readAllLines(DOCUMENT)) {
            if (line.startsWith("    public int ")) {
                face.add(signature(line.replaceAll("^ +public int |;$", "")));
            } else if (line.startsWith("`int ")) {
                promised.add(signature(line.replaceAll("^`int |`$", "")));
            } else if (line.startsWith("    public static final int ")) {
                constants.add(line.replaceAll("^ +public static final int |[ ;]", ""));
            }
        }
        Set<String> methods = new TreeSet<>(Arrays.asList(METHODS));
        same("the document's face", face, methods);
        same("the promises' signatures", promised, methods);
        same("the document's constants", constants, new TreeSet<>(Arrays.asList(CONSTANTS)));
    }

    /** Leaves out the names of the parameters. */
    private static String signature(String text) {
        return text.replaceAll("(int|boolean) \\w+", "$1").replace(" ", "");
    }

    private static boolean isPrivate(Member member) {
        return Modifier.isPrivate(member.getModifiers());
    }

    private static void nestedClasses() {
        Set<String> faceNames = new TreeSet<>();
        for (String method : METHODS) {
            faceNames.add(method.substring(0, method.indexOf('(')));
        }
        for (Class<?> nested : PoeSwitch.class.getDeclaredClasses()) {
            CHECK.due("static " + nested, Modifier.isStatic(nested.getModifiers()) ? 1 : 0, 1);
            for (Method method : nested.getDeclaredMethods()) {
                CHECK.due("name " + method, faceNames.contains(method.getName()) ? 1 : 0, 0);
            }
        }
        for (Method method : PoeSwitch.class.getDeclaredMethods()) {
            boolean taken = isPrivate(method) && faceNames.contains(method.getName());
            CHECK.due("name " + method, taken ? 1 : 0, 0);
        }
    }

    private static void sizes() {
        Class<?>[] nested = PoeSwitch.class.getDeclaredClasses();
        CHECK.due("at most twelve classes", nested.length < 12 ? 1 : 0, 1);
        sizesOf(PoeSwitch.class);
        for (Class<?> each : nested) {
            sizesOf(each);
        }
    }

    private static void sizesOf(Class<?> owner) {
        int fields = 0;
        for (Field field : owner.getDeclaredFields()) {
            if (!Modifier.isStatic(field.getModifiers())) {
                fields++;
            } else {
                CHECK.due("final " + field, Modifier.isFinal(field.getModifiers()) ? 1 : 0, 1);
            }
        }
        CHECK.due("at most twenty fields in " + owner, fields <= 20 ? 1 : 0, 1);
        for (Method method : owner.getDeclaredMethods()) {
            CHECK.due("at most seven parameters " + method, method.getParameterCount() <= 7 ? 1 : 0, 1);
        }
    }

    /** CI runs in the project's folder, so the file is found from there. */
    private static void source() throws Exception {
        String text = Files.readString(Path.of("src/main/java/PoeSwitch.java"));
        String code = text.replaceAll("(?s)/\\*.*?\\*/", "").replaceAll("//.*", "");
        String forbidden = "\\b(throw|try|catch|synchronized|assert|import|package)\\b|->|::|Exact\\b";
        Matcher matcher = Pattern.compile(forbidden).matcher(code);
        while (matcher.find()) {
            CHECK.due("forbidden " + matcher.group(), 1, 0);
        }
        CHECK.due("signs are plain", text.chars().allMatch(sign -> sign < 128) ? 1 : 0, 1);
    }
}
