import java.io.IOException;
import java.lang.reflect.Method;
import java.lang.reflect.Modifier;
import java.nio.file.Files;
import java.nio.file.Path;
import java.util.regex.Matcher;
import java.util.regex.Pattern;

/** The example of README.md answers what its comments tell, and its texts are without fault. */
public final class ReadmeTests {
  private static final Pattern STEP = Pattern.compile("(?m)^eye\\.(\\w+)\\(([^)]*)\\); +// ([^ :]+):");
  private static final Pattern ANY_STEP = Pattern.compile("(?m)^eye\\.");
  private static int wrong = 0;

  private static void due(String what, double got, double want) {
    if (got != want) {
      wrong++;
      System.out.println("README, " + what + ": answered " + got + ", due is " + want);
    }
  }

  private static int number(String told) throws ReflectiveOperationException {
    String constant = "CupEye.";
    if (told.startsWith(constant)) {
      return CupEye.class.getField(told.substring(constant.length())).getInt(null);
    }
    return Integer.parseInt(told);
  }

  private static double ask(CupEye eye, String name, String told) throws ReflectiveOperationException {
    String[] words = told.isEmpty() ? new String[0] : told.split(", ");
    Class<?>[] types = new Class<?>[words.length];
    Object[] numbers = new Object[words.length];
    for (int i = 0; i < words.length; i++) {
      types[i] = int.class;
      numbers[i] = number(words[i]);
    }
    Method call = CupEye.class.getMethod(name, types);
    return ((Number) call.invoke(eye, numbers)).doubleValue();
  }

  private static void checkExample(String page) throws ReflectiveOperationException {
    CupEye eye = new CupEye();
    int steps = 0;
    for (Matcher step = STEP.matcher(page); step.find(); steps++) {
      due(step.group(1) + "(" + step.group(2) + ")", ask(eye, step.group(1), step.group(2)),
          Double.parseDouble(step.group(3)));
    }
    due("steps with an answer", steps, ANY_STEP.matcher(page).results().count());
    due("an example with steps", steps > 0 ? 1 : 0, 1);
  }

  private static void checkText(String page, String text, int way) {
    due("stands there: " + text, page.contains("`" + text + "`") ? 1 : 0, 1);
    CupEye eye = new CupEye();
    for (char sign : text.toCharArray()) {
      eye.append(sign);
    }
    due("fault of " + text, eye.fault(way), CupEye.NOT_FOUND);
  }

  /** Each name of the face stands on the page, so that none is forgotten there. */
  private static void checkNames(String page) {
    for (Method method : CupEye.class.getDeclaredMethods()) {
      if (Modifier.isPublic(method.getModifiers())) {
        String name = method.getName();
        boolean told = page.contains("`" + name + "`") || page.contains("`" + name + "()`");
        due("tells of " + name, told ? 1 : 0, 1);
      }
    }
  }

  public static void main(String[] args) throws IOException, ReflectiveOperationException {
    String page = Files.readString(Path.of("README.md"));
    checkExample(page);
    checkText(page, "w100r80b1>0,w50r40b9>1", 1);
    checkText(page, "w150r90b0,x,w60r5b9,&w70r9b0", 0);
    checkNames(page);
    System.out.println(wrong == 0 ? "the page tells what is" : wrong + " faults of the page");
    if (wrong != 0) {
      System.exit(1);
    }
  }
}
