import java.lang.reflect.Constructor;
import java.lang.reflect.Field;
import java.lang.reflect.Method;
import java.lang.reflect.Modifier;
import java.util.Arrays;
import java.util.Set;
import java.util.TreeSet;
import java.util.stream.Collectors;

/** "The public face" of the document, and the first rule of LANGUAGE.md: this, and no more. */
public final class FaceTest {
  private static final String STATE = "IllegalStateException";
  private static final String ARGUMENT = "IllegalArgumentException";
  private static final String INDEX = "IndexOutOfBoundsException";
  private static int wrong = 0;

  public static void main(String[] args) {
    theClassIsPublicAndFinal();
    theConstructorIsTheOnlyOne();
    theMethodsAreThoseOfTheDocument();
    allElseIsPrivate();
    noObjectSharesWhatChanges();
    System.out.println(wrong == 0 ? "the face is that of the document" : wrong + " wrong");
    if (wrong != 0) {
      System.exit(1);
    }
  }

  private static void theClassIsPublicAndFinal() {
    dueText(Modifier.toString(BellHammer.class.getModifiers()), "public final", "the class");
    dueText(BellHammer.class.getPackageName(), "", "its package");
    dueText(BellHammer.class.getSuperclass().getSimpleName(), "Object", "the class above it");
    dueText(Arrays.toString(BellHammer.class.getInterfaces()), "[]", "its interfaces");
  }

  private static void theConstructorIsTheOnlyOne() {
    Set<String> told = new TreeSet<>();
    for (Constructor<?> constructor : BellHammer.class.getDeclaredConstructors()) {
      told.add(Modifier.toString(constructor.getModifiers()) + " BellHammer"
          + names(constructor.getParameterTypes()) + thrown(constructor.getExceptionTypes()));
    }
    dueText(told.toString(), "[public BellHammer()]", "the constructors");
  }

  private static void theMethodsAreThoseOfTheDocument() {
    Set<String> due = new TreeSet<>();
    add(due, "int feed(int, int, int, int, int)", STATE);
    add(due, "int trim(int)", ARGUMENT);
    add(due, "int teach()");
    add(due, "int errorAt()");
    add(due, "int count(int)", INDEX);
    add(due, "int rail(int, int)", INDEX);
    add(due, "int fist(int, int)", INDEX);
    add(due, "int prize(int, int)", INDEX);
    add(due, "int turn(int, int)", INDEX);
    add(due, "int board(int)", INDEX);
    add(due, "int strike(int, int)", INDEX);
    add(due, "int wind(int, int)", INDEX, ARGUMENT);
    add(due, "int pass(int)", ARGUMENT);
    add(due, "int would(int, int, int)", INDEX);
    add(due, "int path(int, int, int)", INDEX, ARGUMENT);
    add(due, "int needs(int, int)", INDEX);
    add(due, "int foresee(int, int)", ARGUMENT, INDEX);
    add(due, "int advise(int, int)", INDEX, ARGUMENT);
    add(due, "double mean()");
    add(due, "long digest()");
    Set<String> told = new TreeSet<>();
    for (Method method : BellHammer.class.getDeclaredMethods()) {
      if (Modifier.isPublic(method.getModifiers())) {
        told.add(Modifier.toString(method.getModifiers()) + " "
            + method.getReturnType().getSimpleName() + " " + method.getName()
            + names(method.getParameterTypes()) + thrown(method.getExceptionTypes()));
      }
    }
    for (String method : due) {
      dueText(told.contains(method) ? "there" : "not there", "there", method);
    }
    for (String method : told) {
      dueText(due.contains(method) ? "in it" : "not in it", "in it", "in the document " + method);
    }
  }

  private static void add(Set<String> methods, String head, String... exceptions) {
    String list = String.join(", ", exceptions);
    methods.add("public " + head + (list.isEmpty() ? "" : " throws " + list));
  }

  private static void allElseIsPrivate() {
    Set<String> publicNames = new TreeSet<>();
    for (Method method : BellHammer.class.getDeclaredMethods()) {
      if (Modifier.isPublic(method.getModifiers())) {
        publicNames.add(method.getName());
      } else {
        dueText(access(method.getModifiers()), "private", method.getName() + "()");
      }
    }
    for (Method method : BellHammer.class.getDeclaredMethods()) {
      boolean sameName = publicNames.contains(method.getName());
      if (Modifier.isPrivate(method.getModifiers()) && sameName) {
        dueText(method.getName(), "of its own", "the name of a private method");
      }
    }
    for (Field field : BellHammer.class.getDeclaredFields()) {
      dueText(access(field.getModifiers()), "private", "the field " + field.getName());
    }
    for (Class<?> inside : BellHammer.class.getDeclaredClasses()) {
      boolean hidden = !Modifier.isPublic(inside.getModifiers())
          && !Modifier.isProtected(inside.getModifiers());
      boolean isStatic = Modifier.isStatic(inside.getModifiers());
      dueText(hidden && isStatic ? "so" : "not so", "so", "hidden and static " + inside.getName());
    }
  }

  /** Fields of a class, and not of an object, are constants of numbers and of texts. */
  private static void noObjectSharesWhatChanges() {
    checkConstants(BellHammer.class);
    for (Class<?> inside : BellHammer.class.getDeclaredClasses()) {
      checkConstants(inside);
    }
  }

  private static void checkConstants(Class<?> type) {
    for (Field field : type.getDeclaredFields()) {
      if (Modifier.isStatic(field.getModifiers())) {
        String name = type.getSimpleName() + "." + field.getName();
        boolean isFinal = Modifier.isFinal(field.getModifiers());
        boolean plain = field.getType() == int.class || field.getType() == String.class;
        dueText(isFinal && plain ? "so" : "not so", "so", "a constant " + name);
      }
    }
  }

  private static String access(int modifiers) {
    return Modifier.toString(
        modifiers & (Modifier.PUBLIC | Modifier.PROTECTED | Modifier.PRIVATE));
  }

  private static String names(Class<?>[] types) {
    return Arrays.stream(types).map(Class::getSimpleName).collect(Collectors.joining(", ", "(", ")"));
  }

  private static String thrown(Class<?>[] types) {
    String list =
        Arrays.stream(types).map(Class::getSimpleName).collect(Collectors.joining(", "));
    return list.isEmpty() ? "" : " throws " + list;
  }

  private static void dueText(String got, String want, String what) {
    if (!got.equals(want)) {
      wrong++;
      System.out.println(what + ": " + got + ", due is " + want);
    }
  }
}
