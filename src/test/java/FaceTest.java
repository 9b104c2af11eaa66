import java.io.IOException;
import java.lang.reflect.Field;
import java.lang.reflect.Member;
import java.lang.reflect.Method;
import java.lang.reflect.Modifier;
import java.nio.file.Files;
import java.nio.file.Path;
import java.util.Arrays;
import java.util.Set;
import java.util.TreeSet;

/** The class has the document's face and no other, and keeps off what LANGUAGE.md forbids by its words. */
public final class FaceTest {
    private static final String FACE = "as2 better0 by2 carry1 change3 copy5 costs2 count1 day0 feed2 grains2 hold2 "
            + "image0 ith1 judge1 kindFor1 load1 loss2 made1 most1 needed0 next1 now1 of2 quarter2 reach0 round0 "
            + "rounds0 seed1 shade0 sheet3 sky1 soonest1 spell3 start0 status1 stray1 street4 tear0 text0 umbrella0 "
            + "undo0 wait1 way2 ways1 wipe0 write3 year0";

    private static final String[] FORBIDDEN = {"throw", "try", "catch", "synchronized", "assert", "->", "::", "Exact",
        "System.out", "protected", "hashCode", "toString", "Object", "static {"};

    public static void main(String[] args) throws IOException {
        Class<?> face = SugarSaint.class;
        Check.due("public and final", face.getModifiers() & (Modifier.PUBLIC | Modifier.FINAL),
                Modifier.PUBLIC | Modifier.FINAL);
        Check.due("constructors", face.getDeclaredConstructors().length, 1);
        Check.due("no private method bears the name of a public one", privateNamesakes(), 0);
        Set<String> found = new TreeSet<>();
        for (Method m : face.getDeclaredMethods()) {
            if (!isHidden(m)) {
                found.add(m.getName() + m.getParameterCount());
                Check.due(m.getName() + " answers an int", m.getReturnType() == int.class ? 1 : 0, 1);
                Check.due(m.getName() + " is public", Modifier.isPublic(m.getModifiers()) ? 1 : 0, 1);
            }
        }
        Check.same("the face", String.join(" ", found), FACE);
        for (Member field : face.getDeclaredFields()) {
            Check.due(field.getName() + " is private", isHidden(field) ? 1 : 0, 1);
        }
        sizes();
        words();
        Check.finish();
    }

    private static boolean isHidden(Member member) {
        return Modifier.isPrivate(member.getModifiers());
    }

    private static int privateNamesakes() {
        Set<String> names = new TreeSet<>(Arrays.asList(FACE.replaceAll("[0-9]", "").split(" ")));
        int found = 0;
        for (Class<?> c : SugarSaint.class.getDeclaredClasses()) {
            for (Method m : c.getDeclaredMethods()) {
                found += names.contains(m.getName()) ? 1 : 0;
            }
        }
        for (Method m : SugarSaint.class.getDeclaredMethods()) {
            found += isHidden(m) && names.contains(m.getName()) ? 1 : 0;
        }
        return found;
    }

    /** What LANGUAGE.md lets a file, a class and a method have. */
    private static void sizes() {
        Class<?>[] inside = SugarSaint.class.getDeclaredClasses();
        Check.due("at most some twelve classes", inside.length < 12 ? 1 : 0, 1);
        size(SugarSaint.class);
        for (Class<?> c : inside) {
            Check.due(c.getName() + " is static", Modifier.isStatic(c.getModifiers()) ? 1 : 0, 1);
            Check.due(c.getName() + " is not to be seen", c.getModifiers() & (Modifier.PUBLIC | Modifier.PROTECTED), 0);
            Check.due(c.getName() + " has no class inside", c.getDeclaredClasses().length, 0);
            size(c);
        }
    }

    private static void size(Class<?> c) {
        int fields = 0;
        for (Field field : c.getDeclaredFields()) {
            if (Modifier.isStatic(field.getModifiers())) {
                Check.due(c.getName() + ": static " + field.getName() + " is a final number",
                        Modifier.isFinal(field.getModifiers()) && field.getType() == int.class ? 1 : 0, 1);
            } else {
                fields++;
            }
        }
        Check.due(c.getName() + " has at most some twenty fields", fields <= 20 ? 1 : 0, 1);
        for (Method m : c.getDeclaredMethods()) {
            Check.due(m.getName() + " takes at most seven parameters", m.getParameterCount() <= 7 ? 1 : 0, 1);
        }
    }

    private static void words() throws IOException {
        String source = Files.readString(Path.of("src/main/java/SugarSaint.java"));
        String code = source.replaceAll("(?s)/\\*.*?\\*/", "").replaceAll("//[^\n]*", "");
        for (String word : FORBIDDEN) {
            Check.due("'" + word + "' in the program", code.contains(word) ? 1 : 0, 0);
        }
        int beyondAscii = (int) source.chars().filter(c -> c > 126).count();
        Check.due("signs above 126", beyondAscii, 0);
    }
}
