import java.lang.reflect.Constructor;
import java.lang.reflect.Field;
import java.lang.reflect.Method;
import java.lang.reflect.Modifier;
import java.util.Set;
import java.util.TreeSet;

/** The class has the document's face and no other. */
public final class FaceTest {
  private static final String[] FACE = {
    "int feed(long,long,long)", "int draw()", "boolean takeBack()", "int piece(int,int)", "int shows(int,int)", "int train(int,int)",
    "int lever(int)", "int hopper(int,int)", "int run(int,int)", "int logged(int)", "int round(int,int)", "boolean shelf(int,boolean)",
    "int alike(int,int)", "int telling(int,int,int)", "boolean wish(int,int,int)", "int way()", "int step(int)", "int sight(int,int)",
    "int suspect(int,int)", "int test(int)", "int tries(int)", "int count(int)",
  };

  public static void main(String[] args) {
    Class<?> c = MarbleWorks.class;
    Works.due("public final", Modifier.isPublic(c.getModifiers()) && Modifier.isFinal(c.getModifiers()), true);
    Set<String> want = new TreeSet<>(Set.of(FACE));
    Set<String> names = new TreeSet<>();
    for (Method m : c.getDeclaredMethods()) {
      if (!Modifier.isPrivate(m.getModifiers())) {
        Works.due("the document has " + told(m), want.remove(told(m)) && Modifier.isPublic(m.getModifiers()), true);
        names.add(m.getName());
      }
    }
    Works.due("missing: " + want, want.size(), 0);
    for (Method m : c.getDeclaredMethods()) {
      Works.due("a private " + m.getName(), Modifier.isPrivate(m.getModifiers()) && names.contains(m.getName()), false);
    }
    for (Field f : c.getDeclaredFields()) {
      Works.due("field " + f.getName(), Modifier.isPrivate(f.getModifiers()), !f.getName().equals("NONE"));
      Works.due("final field " + f.getName(), Modifier.isFinal(f.getModifiers()), true);
    }
    Constructor<?>[] made = c.getDeclaredConstructors();
    Works.due("one constructor", made.length == 1 && Modifier.isPublic(made[0].getModifiers()) && made[0].getParameterCount() == 0, true);
    for (Class<?> inside : c.getDeclaredClasses()) {
      Works.due(inside.getName() + " is static", Modifier.isStatic(inside.getModifiers()), true);
      Works.due(inside.getName() + " is not public", Modifier.isPublic(inside.getModifiers()), false);
      for (Method m : inside.getDeclaredMethods()) {
        Works.due(inside.getName() + " has " + m.getName(), names.contains(m.getName()), false);
      }
    }
    fields(c);
    for (Class<?> inside : c.getDeclaredClasses()) {
      fields(inside);
    }
    Works.due("classes, at most 12", c.getDeclaredClasses().length <= 11, true);
    Works.end("FaceTest");
  }

  /** Static ones are constants; of the others a class has some twenty at most. */
  private static void fields(Class<?> c) {
    int found = 0;
    for (Field f : c.getDeclaredFields()) {
      boolean isStatic = Modifier.isStatic(f.getModifiers());
      found += isStatic ? 0 : 1;
      Works.due(c.getName() + "." + f.getName() + " is static, so final", isStatic && !Modifier.isFinal(f.getModifiers()), false);
    }
    Works.due(c.getName() + " has " + found + " fields, at most 20", found <= 20, true);
  }

  private static String told(Method m) {
    StringBuilder b = new StringBuilder(m.getReturnType().getName()).append(' ').append(m.getName()).append('(');
    for (int i = 0; i < m.getParameterCount(); i++) {
      b.append(i == 0 ? "" : ",").append(m.getParameterTypes()[i].getName());
    }
    return b.append(')').toString();
  }
}
