import java.io.IOException;
import java.lang.reflect.Method;
import java.lang.reflect.Modifier;
import java.nio.file.Files;
import java.nio.file.Path;
import java.util.regex.Matcher;
import java.util.regex.Pattern;

/** README.md names every call, and its examples answer what it says. */
public final class ReadmeTest {
    private static final Pattern OBJECT = Pattern.compile("SugarSaint \\w = new SugarSaint\\(\\);.*");
    private static final Pattern CALL = Pattern.compile("x\\.(\\w+\\([-0-9, ]*\\)); +// (-?\\d+)\\b.*");
    private static final Pattern TOLD = Pattern.compile("tell\\(y, \"(.*)\"\\); +// (-?\\d+)\\b.*");
    private static final Pattern EXAMPLE = Pattern.compile("(x\\.|tell\\(y).*");

    public static void main(String[] args) throws IOException {
        String page = Files.readString(Path.of("README.md"));
        names(page);
        examples(page);
        Check.finish();
    }

    private static void names(String page) {
        for (Method act : SugarSaint.class.getDeclaredMethods()) {
            if (Modifier.isPublic(act.getModifiers())) {
                Check.due("README.md names " + act.getName(), page.contains('`' + act.getName() + '(') ? 1 : 0, 1);
            }
        }
    }

    /** An object's examples are played as one run, as the page goes. */
    private static void examples(String page) {
        StringBuilder runs = new StringBuilder();
        for (String line : page.split("\n")) {
            Matcher call = CALL.matcher(line);
            Matcher told = TOLD.matcher(line);
            if (OBJECT.matcher(line).matches()) {
                runs.append("\n# an example\n");
            } else if (call.matches()) {
                runs.append(call.group(1)).append(" = ").append(call.group(2)).append('\n');
            } else if (told.matches()) {
                runs.append('\'').append(told.group(1)).append("'\ntext() = ").append(told.group(2)).append('\n');
            } else if (EXAMPLE.matcher(line).matches()) {
                Check.due("README.md tells the answer of " + line, 0, 1);
            }
        }
        Edges.check("README.md", runs.toString());
    }
}
