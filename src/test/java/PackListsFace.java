import java.lang.reflect.Constructor;
import java.lang.reflect.Field;
import java.lang.reflect.Member;
import java.lang.reflect.Method;
import java.lang.reflect.Modifier;
import java.util.Arrays;
import java.util.Set;
import java.util.TreeSet;

/** The class shows the document's face and no more, and no call throws, whatever it is given. */
public final class PackListsFace {
  private static final String[] FACE = {
    "public static final int PackLists.NONE",
    "public PackLists()",
    "public boolean PackLists.unit(int)",
    "public int PackLists.rules()",
    "public int PackLists.bottle(int,long)",
    "public int PackLists.box(int,long,int)",
    "public boolean PackLists.absorber(int,long)",
    "public int PackLists.pack(long)",
    "public int PackLists.boxOf(int)",
    "public boolean PackLists.proved()",
    "public boolean PackLists.kept()",
    "public long PackLists.points()",
    "public boolean PackLists.exempt()",
    "public int PackLists.name(int)",
    "public int PackLists.order(int)",
    "public int PackLists.paper(int)",
    "public int PackLists.mark(int)",
    "public int PackLists.tunnel()",
    "public int PackLists.note(int,int)",
    "public int PackLists.refuse(int,int)",
    "public int PackLists.refused(int)",
    "public int PackLists.test(int,int,int)",
  };
  private static final long[] EDGES = {
    Long.MIN_VALUE, Integer.MIN_VALUE, -101, -2, -1, 0, 1, 2, 3, 4, 5, 7, 8, 9, 10, 32, 255, 256,
    1000, 100000, 1000000, Integer.MAX_VALUE, 4294967296L, Long.MAX_VALUE,
  };

  private static void addShown(Set<String> shown, Member m) {
    if (!Modifier.isPrivate(m.getModifiers()) && !m.isSynthetic()) shown.add(m.toString());
  }

  private static Set<String> shown() {
    Set<String> shown = new TreeSet<>();
    for (Field f : PackLists.class.getDeclaredFields()) addShown(shown, f);
    for (Method m : PackLists.class.getDeclaredMethods()) addShown(shown, m);
    for (Constructor<?> c : PackLists.class.getDeclaredConstructors()) addShown(shown, c);
    return shown;
  }

  private static Object[] arguments(Method m, int seed) {
    Class<?>[] types = m.getParameterTypes();
    Object[] answer = new Object[types.length];
    int rest = seed;
    for (int i = 0; i < types.length; i++) {
      long value = EDGES[rest % EDGES.length];
      rest /= EDGES.length;
      answer[i] = types[i] == int.class ? (Object) (int) value : (Object) value;
    }
    return answer;
  }

  private static int callAll(PackLists x) {
    int thrown = 0;
    for (Method m : PackLists.class.getDeclaredMethods()) {
      if (!Modifier.isPublic(m.getModifiers())) continue;
      int seeds = (int) Math.pow(EDGES.length, m.getParameterCount());
      for (int seed = 0; seed < seeds; seed++) {
        Object[] arguments = arguments(m, seed);
        try {
          m.invoke(x, arguments);
        } catch (ReflectiveOperationException e) {
          thrown++;
          System.out.println(m.getName() + Arrays.toString(arguments) + " threw " + e.getCause());
        }
      }
    }
    return thrown;
  }

  private static void tell(PackLists x, String text) {
    for (int i = 0; i < text.length(); i++) x.unit(text.charAt(i));
    x.rules();
  }

  private static PackLists begun() {
    PackLists x = new PackLists();
    tell(x, "apart 0 1 points 0 3 mark 0 1 1 note 3 3 step 0 0 9 step 9 0 1 class 1 1 8 class 0 1 0 tunnel 0 5");
    for (int i = 0; i < 5; i++) x.box(0, 1000, 4);
    for (int i = 0; i < 8; i++) x.bottle(i % 3 - 1, 100);
    x.pack(400000);
    return x;
  }

  public static void main(String[] args) {
    boolean fine = true;
    Set<String> due = new TreeSet<>(Arrays.asList(FACE));
    if (!shown().equals(due)) {
      fine = false;
      System.out.println("shown is " + shown() + ", due is " + due);
    }
    if (!Modifier.isFinal(PackLists.class.getModifiers())) {
      fine = false;
      System.out.println("the class is not final");
    }
    int thrown = callAll(new PackLists()) + callAll(begun());
    System.out.println("the face, and calls of it by edges: " + thrown + " threw");
    if (!fine || thrown != 0) System.exit(1);
  }
}
