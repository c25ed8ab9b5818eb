import java.lang.reflect.Constructor;
import java.lang.reflect.Field;
import java.lang.reflect.Method;
import java.lang.reflect.Modifier;
import java.util.Set;
import java.util.TreeSet;

/** The public face is that of the document, and nothing else can be seen from outside. */
public final class FaceTest {
  private static final String[] METHODS = {
    "thing(int,int,int)", "value(int,int)", "key(int,int)", "next(int,int)", "place(int,int,int)",
    "hold(int,boolean)", "copy(int,int,int,int,int)", "load(int,boolean)", "refused(int)", "node(int)",
    "of(int)", "column(int)", "arcs(int)", "arc(int,int,int)", "way(int,int)", "holes()", "asked(int)",
    "tells(int,int)", "is(int,int)", "count(int)", "clear()"
  };
  private static final String[] CONSTANTS = {
    "UNKNOWN=-1000001", "OUTSIDE=-1000002", "STATE=-1000003", "ROOM=-1000004", "NONE=-1000009"
  };

  private static int wrong = 0;

  private static void due(String what, Object got, Object want) {
    if (!got.equals(want)) {
      wrong++;
      System.out.println(what + ": " + got + ", due is " + want);
    }
  }

  private static String signature(Method method) {
    StringBuilder text = new StringBuilder(method.getName()).append('(');
    for (Class<?> type : method.getParameterTypes()) {
      text.append(text.charAt(text.length() - 1) == '(' ? "" : ",").append(type.getName());
    }
    return text.append(')').toString();
  }

  private static void methods() {
    Set<String> seen = new TreeSet<>();
    Set<String> publicNames = new TreeSet<>();
    Set<String> privateNames = new TreeSet<>();
    for (Method method : ObjectLoads.class.getDeclaredMethods()) {
      if (Modifier.isPrivate(method.getModifiers())) {
        privateNames.add(method.getName());
        continue;
      }
      seen.add(signature(method));
      publicNames.add(method.getName());
      due(method.getName() + " is public", Modifier.isPublic(method.getModifiers()), true);
      due(method.getName() + " is static", Modifier.isStatic(method.getModifiers()), false);
      due(method.getName() + " returns", method.getReturnType(), int.class);
    }
    due("methods", seen, new TreeSet<>(Set.of(METHODS)));
    privateNames.retainAll(publicNames);
    due("private methods with public names", privateNames, Set.of());
  }

  private static void constants() throws IllegalAccessException {
    Set<String> seen = new TreeSet<>();
    for (Field field : ObjectLoads.class.getDeclaredFields()) {
      int modifiers = field.getModifiers();
      if (Modifier.isPrivate(modifiers)) {
        due(field.getName() + " if static is final", !Modifier.isStatic(modifiers) || Modifier.isFinal(modifiers), true);
        continue;
      }
      due(field.getName(), modifiers, Modifier.PUBLIC | Modifier.STATIC | Modifier.FINAL);
      seen.add(field.getName() + "=" + field.getInt(null));
    }
    due("constants", seen, new TreeSet<>(Set.of(CONSTANTS)));
  }

  private static void classes() {
    due("the class", ObjectLoads.class.getModifiers(), Modifier.PUBLIC | Modifier.FINAL);
    Constructor<?>[] constructors = ObjectLoads.class.getDeclaredConstructors();
    due("constructors", constructors.length, 1);
    due("its parameters", constructors[0].getParameterCount(), 0);
    due("it is public", Modifier.isPublic(constructors[0].getModifiers()), true);
    for (Class<?> inside : ObjectLoads.class.getDeclaredClasses()) {
      due(inside.getName() + " is static", Modifier.isStatic(inside.getModifiers()), true);
      due(inside.getName() + " is public", Modifier.isPublic(inside.getModifiers()), false);
    }
  }

  public static void main(String[] args) throws IllegalAccessException {
    methods();
    constants();
    classes();
    System.out.println(wrong == 0 ? "the face is as due" : wrong + " things are not as due");
    if (wrong != 0) {
      System.exit(1);
    }
  }
}
