import java.io.IOException;
import java.lang.reflect.InvocationTargetException;
import java.lang.reflect.Method;
import java.lang.reflect.Modifier;
import java.nio.file.Files;
import java.nio.file.Path;
import java.util.Set;
import java.util.TreeSet;
import java.util.regex.Matcher;
import java.util.regex.Pattern;

/** The calls of README.md answer what it says of them, and it names each call of the face; run from the project's folder. */
public final class ReadmeTest {
  private static final Pattern FED = Pattern.compile("feed\\(works, \"([^\"]*)\"\\);");
  private static final Pattern CALLED = Pattern.compile("works\\.(\\w+)\\(([^)]*)\\); +// (-?\\w+).*");

  public static void main(String[] args) throws IOException, IllegalAccessException {
    String page = Files.readString(Path.of("README.md"));
    Works works = new Works();
    int calls = 0;
    for (String line : page.split("\n")) {
      Matcher fed = FED.matcher(line);
      Matcher called = CALLED.matcher(line);
      if (fed.matches()) {
        works.feed(fed.group(1));
      } else if (called.matches()) {
        String answer = answer(works.it, called.group(1), called.group(2));
        Works.due(line + " (answered " + answer + ")", answer.equals(called.group(3)), true);
        calls++;
      }
    }
    Works.due("calls were found", calls >= 28, true);
    Set<String> named = new TreeSet<>();
    Matcher names = Pattern.compile("`(\\w+)`").matcher(page);
    while (names.find()) {
      named.add(names.group(1));
    }
    for (Method m : MarbleWorks.class.getDeclaredMethods()) {
      Works.due("the page names " + m.getName(), named.contains(m.getName()), Modifier.isPublic(m.getModifiers()));
    }
    Works.end("ReadmeTest");
  }

  private static String answer(MarbleWorks works, String name, String given) throws IllegalAccessException {
    for (Method m : MarbleWorks.class.getMethods()) {
      if (m.getName().equals(name) && m.getDeclaringClass() == MarbleWorks.class) {
        try {
          return String.valueOf(m.invoke(works, arguments(m.getParameterTypes(), given)));
        } catch (InvocationTargetException e) {
          return e.getCause().getClass().getSimpleName();
        }
      }
    }
    return "no such call";
  }

  private static Object[] arguments(Class<?>[] types, String given) {
    Object[] out = new Object[types.length];
    String[] parts = given.split(", *");
    for (int i = 0; i < out.length; i++) {
      if (types[i] == boolean.class) {
        out[i] = Boolean.valueOf(parts[i]);
      } else if (types[i] == long.class) {
        out[i] = Long.valueOf(parts[i]);
      } else {
        out[i] = Integer.valueOf(parts[i]);
      }
    }
    return out;
  }
}
