import java.io.IOException;
import java.lang.reflect.Method;
import java.nio.file.Files;
import java.nio.file.Path;
import java.util.HashSet;
import java.util.Set;
import java.util.regex.Matcher;
import java.util.regex.Pattern;

/** Makes the calls of README.md's example and compares the answers with those that stand beside them. */
public final class PackListsReadme {
  private static final Pattern TEXT = Pattern.compile("String text = \"([^\"]*)\";");
  private static final Pattern CALL = Pattern.compile("lists\\.(\\w+)\\(([-0-9, ]*)\\);\\s*// (true|false|-?\\d+).*");

  private static int calls = 0;
  private static int wrong = 0;

  private static void tell(PackLists lists, String text) {
    for (int i = 0; i < text.length(); i++) lists.unit(text.charAt(i));
  }

  private static Method method(String name) {
    for (Method m : PackLists.class.getMethods()) {
      if (m.getDeclaringClass() == PackLists.class && m.getName().equals(name)) return m;
    }
    throw new IllegalStateException("README.md names no call: " + name);
  }

  private static Object[] arguments(Method m, String list) {
    String[] words = list.isBlank() ? new String[0] : list.split(", ");
    Object[] answer = new Object[words.length];
    for (int i = 0; i < words.length; i++) {
      if (m.getParameterTypes()[i] == int.class) answer[i] = Integer.valueOf(words[i]);
      else answer[i] = Long.valueOf(words[i]);
    }
    return answer;
  }

  private static void make(PackLists lists, Matcher call, Set<String> used) throws ReflectiveOperationException {
    Method m = method(call.group(1));
    String got = m.invoke(lists, arguments(m, call.group(2))).toString();
    used.add(m.getName());
    calls++;
    if (!got.equals(call.group(3))) {
      wrong++;
      System.out.println(call.group(1) + "(" + call.group(2) + ") answered " + got + ", due is " + call.group(3));
    }
  }

  public static void main(String[] args) throws IOException, ReflectiveOperationException {
    PackLists lists = new PackLists();
    Set<String> used = new HashSet<>(Set.of("unit"));
    for (String line : Files.readAllLines(Path.of("README.md"))) {
      Matcher text = TEXT.matcher(line);
      Matcher call = CALL.matcher(line);
      if (text.matches()) tell(lists, text.group(1));
      if (call.matches()) make(lists, call, used);
    }
    for (Method m : PackLists.class.getMethods()) {
      if (m.getDeclaringClass() == PackLists.class && !used.contains(m.getName())) {
        wrong++;
        System.out.println("README.md's example does not show " + m.getName());
      }
    }
    System.out.println(calls + " calls of README.md, " + wrong + " not as due");
    if (wrong > 0) System.exit(1);
  }
}
