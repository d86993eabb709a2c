import java.lang.reflect.Constructor;
import java.lang.reflect.Field;
import java.lang.reflect.Method;
import java.lang.reflect.Modifier;
import java.util.ArrayList;
import java.util.Arrays;
import java.util.List;
import java.util.TreeSet;

/** "The public face": its members with their exceptions, and (LANGUAGE.md, rule 1) none beside them. */
public final class PublicFace {
  private static final String INDEX = "IndexOutOfBoundsException", ARGUMENT = "IllegalArgumentException",
      STATE = "IllegalStateException";
  private static final String[][] METHODS = {
      {"add", "3", ARGUMENT, STATE}, {"clear", "0"}, {"enter", "0", STATE}, {"leave", "0", STATE},
      {"type", "1", INDEX, STATE}, {"enumeration", "1", INDEX, STATE}, {"subtype", "2", INDEX, ARGUMENT, STATE},
      {"declare", "4", INDEX, ARGUMENT, STATE}, {"check", "2", INDEX}, {"place", "0"}, {"typeOf", "2", INDEX},
      {"about", "2", INDEX}, {"value", "2", INDEX, STATE}};
  private static int wrong = 0;

  public static void main(String[] args) {
    same("class", Modifier.toString(TypeBook.class.getModifiers()), "public final");
    constants();
    constructors();
    methods();
    classesInside();
    if (wrong > 0) {
      System.exit(1);
    }
  }

  private static void same(String what, Object got, Object due) {
    if (!got.equals(due)) {
      wrong++;
      System.out.println(what + ": " + got + ", due is " + due);
    }
  }

  private static void constants() {
    int[] got = {TypeBook.NONE, TypeBook.LOGIC, TypeBook.TRUTH, TypeBook.INTEGER, TypeBook.ROW, TypeBook.ENUMERATION};
    same("constants", Arrays.toString(got), "[-1, 0, 1, 2, 3, 4]");
    TreeSet<String> visible = new TreeSet<>();
    for (Field field : TypeBook.class.getDeclaredFields()) {
      if (!Modifier.isPrivate(field.getModifiers())) {
        visible.add(field.getName());
        same(field.getName(), Modifier.toString(field.getModifiers()) + " " + field.getType(),
            "public static final int");
      }
    }
    same("visible fields", visible.toString(), "[ENUMERATION, INTEGER, LOGIC, NONE, ROW, TRUTH]");
  }

  private static void constructors() {
    Constructor<?>[] all = TypeBook.class.getDeclaredConstructors();
    same("constructors", all.length, 1);
    same("constructor", Modifier.toString(all[0].getModifiers()) + " " + all[0].getParameterCount(), "public 0");
    same("its exceptions", all[0].getExceptionTypes().length, 0);
  }

  private static void methods() {
    TreeSet<String> got = new TreeSet<>();
    for (Method method : TypeBook.class.getDeclaredMethods()) {
      if (!Modifier.isPrivate(method.getModifiers())) {
        got.add(described(method));
      }
    }
    TreeSet<String> due = new TreeSet<>();
    for (String[] row : METHODS) {
      due.add("public int " + row[0] + "/" + row[1] + " " + Arrays.asList(row).subList(2, row.length));
    }
    same("visible methods", got, due);
  }

  private static String described(Method method) {
    List<String> exceptions = new ArrayList<>();
    for (Class<?> exception : method.getExceptionTypes()) {
      exceptions.add(exception.getSimpleName());
    }
    for (Class<?> parameter : method.getParameterTypes()) {
      same(method.getName() + " takes", parameter, int.class);
    }
    return Modifier.toString(method.getModifiers()) + " " + method.getReturnType() + " " + method.getName() + "/"
        + method.getParameterCount() + " " + exceptions;
  }

  /** "which are private or package-visible and static. No private method bears the name of a public one." */
  private static void classesInside() {
    TreeSet<String> publicNames = new TreeSet<>();
    for (String[] row : METHODS) {
      publicNames.add(row[0]);
    }
    notNamed(publicNames, TypeBook.class, true);
    for (Class<?> inside : TypeBook.class.getDeclaredClasses()) {
      int modifiers = inside.getModifiers();
      same(inside + " is static", Modifier.isStatic(modifiers), true);
      same(inside + " is hidden", Modifier.isPublic(modifiers) || Modifier.isProtected(modifiers), false);
      notNamed(publicNames, inside, false);
    }
  }

  private static void notNamed(TreeSet<String> names, Class<?> owner, boolean onlyPrivate) {
    for (Method method : owner.getDeclaredMethods()) {
      if (!onlyPrivate || Modifier.isPrivate(method.getModifiers())) {
        same(owner.getSimpleName() + "." + method.getName() + " bears a public name",
            names.contains(method.getName()), false);
      }
    }
  }
}
