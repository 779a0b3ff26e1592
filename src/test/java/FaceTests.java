import java.lang.reflect.Constructor;
import java.lang.reflect.Field;
import java.lang.reflect.Method;
import java.lang.reflect.Modifier;
import java.util.ArrayList;
import java.util.HashSet;
import java.util.List;
import java.util.Set;
import java.util.TreeSet;

/** The class has the document's face, and nothing else that could be seen from outside (LANGUAGE.md, rule 1). */
public final class FaceTests {
  private static final String[] METHODS = {
    "int lay(int,int,int)", "int pass(int)", "int rule(int,int,int,int,int)", "int drop(int)", "int water(int)",
    "int empty(int)", "int set(int,int)", "int append(int)", "int clear()", "int fault(int)", "int rules()",
    "int run()", "int cup(int,int)", "int apple(int,int,int)", "int box(int,int)", "int ruleOf(int,int)",
    "int lane(int,int,int,int)", "int misses(int,int,int,int)", "int count(int)",
    "double right()", "int ifPassed(int,int)", "int tightest(int,int)", "int undo()", "int save()", "int restore()",
  };
  private static final String[] CONSTANTS = {
    "INVALID_ARGUMENT=-1", "NOT_POSSIBLE=-2", "LIMIT_REACHED=-3", "NOT_FOUND=-4", "BIAS=0", "GLOW=1", "FILL=2",
  };
  private static int wrong = 0;

  private static void expect(boolean holds, String what) {
    if (!holds) {
      wrong++;
      System.out.println("face: " + what);
    }
  }

  private static String told(Method method) {
    List<String> types = new ArrayList<>();
    for (Class<?> type : method.getParameterTypes()) {
      types.add(type.getName());
    }
    return method.getReturnType().getName() + " " + method.getName() + "(" + String.join(",", types) + ")";
  }

  private static void checkMethods() {
    Set<String> seen = new TreeSet<>();
    Set<String> publicNames = new HashSet<>();
    for (Method method : CupEye.class.getDeclaredMethods()) {
      if (Modifier.isPublic(method.getModifiers())) {
        seen.add(told(method));
        publicNames.add(method.getName());
        expect(!Modifier.isStatic(method.getModifiers()), "static " + told(method));
      }
    }
    expect(seen.equals(new TreeSet<>(List.of(METHODS))), "public methods " + seen);
    for (Method method : CupEye.class.getDeclaredMethods()) {
      int how = method.getModifiers();
      expect(Modifier.isPublic(how) || Modifier.isPrivate(how), "neither public nor private: " + told(method));
      expect(!Modifier.isPrivate(how) || !publicNames.contains(method.getName()), "name used twice: " + told(method));
    }
    for (Class<?> inner : CupEye.class.getDeclaredClasses()) {
      expect(!Modifier.isPublic(inner.getModifiers()) && Modifier.isStatic(inner.getModifiers()), "class " + inner);
      for (Method method : inner.getDeclaredMethods()) {
        expect(!publicNames.contains(method.getName()), "name used twice: " + inner + " " + told(method));
      }
    }
  }

  private static void checkFields() throws IllegalAccessException {
    Set<String> seen = new TreeSet<>();
    for (Field field : CupEye.class.getDeclaredFields()) {
      int how = field.getModifiers();
      if (Modifier.isPublic(how)) {
        expect(Modifier.isStatic(how) && Modifier.isFinal(how), "not a constant: " + field);
        seen.add(field.getName() + "=" + field.get(null));
      } else {
        expect(Modifier.isPrivate(how), "neither public nor private: " + field);
      }
      expect(!Modifier.isStatic(how) || Modifier.isFinal(how), "static state: " + field);
    }
    expect(seen.equals(new TreeSet<>(List.of(CONSTANTS))), "constants " + seen);
  }

  public static void main(String[] args) throws IllegalAccessException {
    expect(Modifier.isPublic(CupEye.class.getModifiers()) && Modifier.isFinal(CupEye.class.getModifiers()), "class");
    Constructor<?>[] constructors = CupEye.class.getDeclaredConstructors();
    expect(constructors.length == 1 && constructors[0].getParameterCount() == 0
        && Modifier.isPublic(constructors[0].getModifiers()), "constructor");
    checkMethods();
    checkFields();
    System.out.println(wrong == 0 ? "the face is as told" : wrong + " faults of the face");
    if (wrong != 0) {
      System.exit(1);
    }
  }
}
