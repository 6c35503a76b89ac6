import java.lang.reflect.Constructor;
import java.lang.reflect.Field;
import java.lang.reflect.Method;
import java.lang.reflect.Modifier;
import java.nio.charset.StandardCharsets;
import java.nio.file.Files;
import java.nio.file.Path;
import java.util.Arrays;
import java.util.TreeSet;
import java.util.regex.Matcher;
import java.util.regex.Pattern;

/** The face of the class, and what of ../shared/LANGUAGE.md a look at the source can tell. */
public final class LanguageTest {
    private static final Path SOURCE = Path.of("src/main/java/NeedleLine.java");

    private static final String[] FACE = {
        "int miles(int)", "int mile(int,int,int)", "int mileIs(int,int)", "int stone(int,int)",
        "int slip(int,int,int)", "int slipIs(int,int)", "int as(int,int)", "int turn(int,int)",
        "int does(int,int,int)", "int feed(long,int)", "int text(int)", "int untell(int)",
        "int post(int,int)", "int miss(int)", "int wronged(int)", "int which(int)",
        "int checks(int,int)", "int hours()", "int within(int)", "int leaning()",
        "long straight(int)", "int offIt()", "int nearest(int,int)", "int crosses()",
        "int tree(int,int,int)", "int treeIs(int,int)", "int dig(int,int,int,int)",
        "int sorts(int)", "int waver(int,int,int)", "int still()", "int seed(int)",
        "int voice(int,int,int)", "int body(int)", "int sheet(int,int,int)", "int put(int,int,int)",
        "int move(int,int,int,int,int)", "int judge(int,int)", "int even(int,int)", "int image()",
        "int restore()", "int tell(int)", "int check()", "int count(int)", "int told(int)"
    };

    public static void main(String[] args) throws Exception {
        theFaceIsTheDocuments();
        nothingElseIsVisible();
        String code = code();
        bannedWordsAreNotIn(code);
        objectsAreMadeWithANewObjectAlone(code);
        Due.end();
    }

    private static String signature(Method method) {
        StringBuilder text = new StringBuilder();
        text.append(method.getReturnType().getSimpleName()).append(' ').append(method.getName()).append('(');
        for (int i = 0; i < method.getParameterCount(); i++) {
            text.append(i == 0 ? "" : ",").append(method.getParameterTypes()[i].getSimpleName());
        }
        return text.append(')').toString();
    }

    private static void theFaceIsTheDocuments() {
        TreeSet<String> has = new TreeSet<>();
        for (Method method : NeedleLine.class.getDeclaredMethods()) {
            if (Modifier.isPublic(method.getModifiers())) {
                has.add(signature(method));
            }
        }
        Due.due("how many public methods", has.size(), 44);
        Due.isTrue("the public methods are those of the document", has.equals(new TreeSet<>(Arrays.asList(FACE))));
        Constructor<?>[] constructors = NeedleLine.class.getConstructors();
        Due.isTrue("one constructor, with no parameters",
                constructors.length == 1 && constructors[0].getParameterCount() == 0);
        Due.isTrue("the class is public and final",
                (NeedleLine.class.getModifiers() & (Modifier.PUBLIC | Modifier.FINAL)) == (Modifier.PUBLIC | Modifier.FINAL));
    }

    private static void nothingElseIsVisible() {
        TreeSet<String> faceNames = new TreeSet<>();
        for (String entry : FACE) {
            faceNames.add(entry.substring(entry.indexOf(' ') + 1, entry.indexOf('(')));
        }
        for (Method method : NeedleLine.class.getDeclaredMethods()) {
            boolean isPrivate = Modifier.isPrivate(method.getModifiers());
            Due.isTrue(method + " is public or private", isPrivate || Modifier.isPublic(method.getModifiers()));
            Due.isTrue(method + " does not bear a public name", !isPrivate || !faceNames.contains(method.getName()));
        }
        for (Field field : NeedleLine.class.getDeclaredFields()) {
            Due.isTrue(field + " is private", Modifier.isPrivate(field.getModifiers()));
        }
        Class<?>[] inside = NeedleLine.class.getDeclaredClasses();
        Due.isTrue("at most twelve classes", inside.length + 1 <= 12);
        for (Class<?> its : inside) {
            Due.isTrue(its + " is static", Modifier.isStatic(its.getModifiers()));
            for (Method method : its.getDeclaredMethods()) {
                Due.isTrue(method + " does not bear a public name", !faceNames.contains(method.getName()));
            }
            staticFieldsAreFinal(its);
        }
        staticFieldsAreFinal(NeedleLine.class);
    }

    private static void staticFieldsAreFinal(Class<?> its) {
        int ownFields = 0;
        for (Field field : its.getDeclaredFields()) {
            boolean isStatic = Modifier.isStatic(field.getModifiers());
            Due.isTrue(field + " is final if it is static", !isStatic || Modifier.isFinal(field.getModifiers()));
            ownFields += isStatic ? 0 : 1;
        }
        Due.isTrue(its + " has some twenty fields at most", ownFields <= 20);
    }

    /** The source without its comments. */
    private static String code() throws Exception {
        byte[] bytes = Files.readAllBytes(SOURCE);
        for (byte sign : bytes) {
            if (sign <= 0) {
                Due.isTrue("all signs of the source are 1 to 127", false);
            }
        }
        return new String(bytes, StandardCharsets.ISO_8859_1)
                .replaceAll("(?s)/\\*.*?\\*/", "").replaceAll("//[^\n]*", "");
    }

    /** All calls of a run share one room, so no call may make an object: fields and constructors do. */
    private static void objectsAreMadeWithANewObjectAlone(String code) {
        for (String line : code.split("\n")) {
            if (Pattern.compile("\\b(new|copyOf|copyOfRange|clone|substring|toCharArray)\\b").matcher(line).find()) {
                boolean isOfAField = line.matches("\\s+private final [\\w\\[\\]]+ \\w+ = new .*");
                boolean isOfAConstructor = line.matches("\\s+(sheets\\[i\\]|this\\.cells) = new .*");
                Due.isTrue("made with a new object alone: " + line.trim(), isOfAField || isOfAConstructor);
            }
        }
    }

    private static void bannedWordsAreNotIn(String code) {
        String[] banned = {
            "\\bthrow\\b", "\\bthrows\\b", "\\btry\\b", "\\bcatch\\b", "\\bsynchronized\\b", "\\bassert\\b",
            "\\bimport\\b", "\\bpackage\\b", "\\bprotected\\b", "->", "::", "@", "Exact\\b", "\\bSystem\\.(?!arraycopy)",
            "\\bThread\\b", "\\bRandom\\b", "\\bjava\\.", "\\bObject\\b", "\\bhashCode\\b", "\\bequals\\b",
            "\\bvar\\b", "\\binstanceof\\b", "\\bvolatile\\b", "\\btransient\\b", "\\bnative\\b", "static\\s*\\{"
        };
        for (String word : banned) {
            Matcher found = Pattern.compile(word).matcher(code);
            Due.isTrue("the source has no " + word, !found.find());
        }
    }
}
