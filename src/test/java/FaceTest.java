import java.io.IOException;
import java.lang.reflect.Constructor;
import java.lang.reflect.Field;
import java.lang.reflect.Method;
import java.lang.reflect.Modifier;
import java.nio.file.Files;
import java.nio.file.Path;
import java.util.ArrayList;
import java.util.Arrays;
import java.util.List;
import java.util.Set;
import java.util.TreeSet;
import java.util.regex.Matcher;
import java.util.regex.Pattern;

/** The public face, the constants and what a class outside may see (LANGUAGE.md, rule 1). */
public final class FaceTest {
    private static final String[] METHODS = {
        "boolean canCall(int) IndexOutOfBoundsException",
        "boolean guess(int,int,int) IndexOutOfBoundsException IllegalStateException",
        "boolean isOn(int) IndexOutOfBoundsException",
        "int addCue(int,int,int,int) IllegalArgumentException IndexOutOfBoundsException IllegalStateException",
        "int call(int) IndexOutOfBoundsException IllegalStateException",
        "int costumeOf(int) IndexOutOfBoundsException",
        "int cues()",
        "int dress(int,int) IndexOutOfBoundsException IllegalArgumentException IllegalStateException",
        "int endPlay() IllegalStateException",
        "int maskByCues(int) IndexOutOfBoundsException",
        "int maskOf(int) IndexOutOfBoundsException",
        "int miss(int) IndexOutOfBoundsException IllegalStateException",
        "int plays()",
        "int points(int) IndexOutOfBoundsException",
        "int purse()",
        "int repair(int) IndexOutOfBoundsException IllegalStateException",
        "int run()",
        "int stateOf(int) IndexOutOfBoundsException",
        "int wear(int) IndexOutOfBoundsException",
        "int wearerOf(int) IndexOutOfBoundsException",
    };

    /** The source's headings and public methods, as the document has them. */
    private static final String[] PARTS = {
        "---- costumes", "dress", "repair", "costumeOf", "wear", "purse",
        "---- cues", "addCue", "canCall", "call", "run", "miss", "stateOf", "cues",
        "---- players and masks", "maskOf", "maskByCues", "wearerOf", "isOn",
        "---- guesses and plays", "guess", "points", "endPlay", "plays",
    };
    private static final Path SOURCE = Path.of("src", "main", "java", "Clockmask.java");
    private static final Pattern PART = Pattern.compile("// (---- .+)|public (?:int|boolean) (\\w+)\\(");

    private static final Check CHECK = new Check("FaceTest");

    public static void main(String[] args) throws IOException {
        theClassIsPublicAndFinal();
        theConstantsAreAsTold();
        theMethodsAreAsTold();
        noOtherFieldIsSeen();
        theSourceHasThePartsInTheirOrder();
        CHECK.end();
    }

    private static void theClassIsPublicAndFinal() {
        CHECK.due("modifiers of the class", Modifier.toString(Clockmask.class.getModifiers()), "public final");
        Constructor<?>[] constructors = Clockmask.class.getDeclaredConstructors();
        CHECK.due("number of constructors", constructors.length, 1);
        CHECK.due("the constructor", constructors[0].toString(), "public Clockmask()");
    }

    private static void theConstantsAreAsTold() {
        CHECK.sentence("`NONE = -1`: There is none");
        CHECK.due("NONE", Clockmask.NONE, -1);
        CHECK.sentence("`ENTER = 0, EXIT = 1, WEAR = 2, DOFF = 3, SWAP = 4`: Kinds of cues");
        CHECK.due("ENTER", Clockmask.ENTER, 0);
        CHECK.due("EXIT", Clockmask.EXIT, 1);
        CHECK.due("WEAR", Clockmask.WEAR, 2);
        CHECK.due("DOFF", Clockmask.DOFF, 3);
        CHECK.due("SWAP", Clockmask.SWAP, 4);
        CHECK.sentence("`WAITING = 0, CALLED = 1, MISSED = 2`: States of cues");
        CHECK.due("WAITING", Clockmask.WAITING, 0);
        CHECK.due("CALLED", Clockmask.CALLED, 1);
        CHECK.due("MISSED", Clockmask.MISSED, 2);
    }

    private static void theMethodsAreAsTold() {
        CHECK.sentence("The public face");
        Set<String> seen = new TreeSet<>();
        Set<String> names = new TreeSet<>();
        for (Method method : Clockmask.class.getDeclaredMethods()) {
            if (Modifier.isPublic(method.getModifiers())) {
                seen.add(told(method));
                names.add(method.getName());
            }
        }
        CHECK.due("the public methods", seen, new TreeSet<>(Arrays.asList(METHODS)));
        for (Method method : Clockmask.class.getDeclaredMethods()) {
            int modifiers = method.getModifiers();
            if (!Modifier.isPublic(modifiers)) {
                CHECK.due(method.getName() + " is private", Modifier.isPrivate(modifiers), true);
                CHECK.due(method.getName() + " has a public one's name", names.contains(method.getName()), false);
            }
        }
    }

    private static String told(Method method) {
        StringBuilder text = new StringBuilder();
        text.append(method.getReturnType().getSimpleName()).append(' ').append(method.getName()).append('(');
        for (int i = 0; i < method.getParameterCount(); i++) {
            text.append(i == 0 ? "" : ",").append(method.getParameterTypes()[i].getSimpleName());
        }
        text.append(')');
        for (Class<?> thrown : method.getExceptionTypes()) {
            text.append(' ').append(thrown.getSimpleName());
        }
        return text.toString();
    }

    private static void noOtherFieldIsSeen() {
        Set<String> seen = new TreeSet<>();
        for (Field field : Clockmask.class.getDeclaredFields()) {
            int modifiers = field.getModifiers();
            if (!Modifier.isPrivate(modifiers)) {
                seen.add(Modifier.toString(modifiers) + " " + field.getType() + " " + field.getName());
            }
        }
        Set<String> due = new TreeSet<>();
        for (String name : "NONE ENTER EXIT WEAR DOFF SWAP WAITING CALLED MISSED".split(" ")) {
            due.add("public static final int " + name);
        }
        CHECK.due("the fields that are not private", seen, due);
    }

    private static void theSourceHasThePartsInTheirOrder() throws IOException {
        CHECK.sentence("Ahead of the calls .. the interface says: ----");
        List<String> seen = new ArrayList<>();
        Matcher part = PART.matcher(Files.readString(SOURCE));
        while (part.find() && !seen.contains("plays")) {
            seen.add(part.group(1) != null ? part.group(1) : part.group(2));
        }
        CHECK.due("the parts up to plays", seen, Arrays.asList(PARTS));
    }
}
