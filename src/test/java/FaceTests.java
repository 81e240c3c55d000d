import java.io.IOException;
import java.lang.reflect.Constructor;
import java.lang.reflect.Field;
import java.lang.reflect.Method;
import java.lang.reflect.Modifier;
import java.nio.file.Files;
import java.nio.file.Path;
import java.util.HashSet;
import java.util.Set;
import java.util.TreeSet;
import java.util.regex.Matcher;
import java.util.regex.Pattern;

/** The class has the document's face and no other, keeps to what LANGUAGE.md lets be told from outside, and stays small. */
public final class FaceTests {
  private static final String[] FACE = {
      "int feed(int,int,int,int,int)", "int end(int)", "int form(int,int,int,boolean)", "int rule(int,int,int,int,int)",
      "int cost(int,int)", "boolean meets(int,int,boolean)", "int becomes(int,int,int)", "int fits(int,int,int)",
      "int fitting(int,int,int,int)", "int row(int)", "int joins(int,int)", "int joined()", "int letter(int)",
      "int back()", "long part(int)", "long parted(int)", "int parting(int,int)", "int formOf(int,int)",
      "int ruleOf(int,int)", "long trees(int,int)", "int choose(int)", "boolean undo()", "int step(int)",
      "int uses(int)", "int about(int,int)", "int count(int)"};
  private static final String FORBIDDEN = "\\b(throw|throws|try|catch|synchronized|assert|Object|hashCode|toString"
      + "|Thread|System\\.(?!arraycopy)\\w+|\\w+Exact)\\b|->|::|\" *\\+|\\+ *\"";

  private static int wrong = 0;

  private static void due(boolean good, String what) {
    if (good) return;
    wrong++;
    System.out.println(what);
  }

  private static String told(Method method) {
    StringBuilder text = new StringBuilder();
    text.append(method.getReturnType().getName()).append(' ').append(method.getName()).append('(');
    for (int i = 0; i < method.getParameterCount(); i++) {
      text.append(i == 0 ? "" : ",").append(method.getParameterTypes()[i].getName());
    }
    return text.append(')').toString();
  }

  private static void members() {
    due(Modifier.isPublic(JoinBench.class.getModifiers()) && Modifier.isFinal(JoinBench.class.getModifiers()),
        "the class is not public and final");
    Set<String> methods = new TreeSet<>();
    Set<String> names = new HashSet<>();
    for (String line : FACE) names.add(line.substring(line.indexOf(' ') + 1, line.indexOf('(')));
    for (Method method : JoinBench.class.getDeclaredMethods()) {
      if (Modifier.isPublic(method.getModifiers())) methods.add(told(method));
      else due(Modifier.isPrivate(method.getModifiers()) && !names.contains(method.getName()), "a method too many: " + method);
    }
    due(methods.equals(new TreeSet<>(Set.of(FACE))), "the methods are " + methods);
    for (Constructor<?> maker : JoinBench.class.getDeclaredConstructors())
      due(Modifier.isPublic(maker.getModifiers()) && maker.getParameterCount() == 0, "a constructor too many: " + maker);
    for (Field field : JoinBench.class.getDeclaredFields())
      due(Modifier.isPrivate(field.getModifiers()) || field.getName().equals("NONE"), "a field too many: " + field);
    int classes = 1;
    for (Class<?> inside : JoinBench.class.getDeclaredClasses()) {
      classes++;
      due(Modifier.isStatic(inside.getModifiers()), "not static: " + inside);
      for (Field field : inside.getDeclaredFields())
        due(!Modifier.isStatic(field.getModifiers()) || Modifier.isFinal(field.getModifiers()), "static state: " + field);
    }
    due(classes <= 12, "classes: " + classes);
  }

  private static void source(String file) throws IOException {
    String text = Files.readString(Path.of(file));
    String code = text.replaceAll("(?s)/\\*.*?\\*/", "").replaceAll("//[^\n]*", "");
    Matcher found = Pattern.compile(FORBIDDEN).matcher(code);
    while (found.find()) due(false, "LANGUAGE.md has no " + found.group());
    Matcher imports = Pattern.compile("import ([^;]*);").matcher(code);
    while (imports.find()) due(imports.group(1).equals("java.util.Arrays"), "an import too many: " + imports.group(1));
  }

  public static void main(String[] args) throws IOException {
    members();
    if (args.length > 0) source(args[0]);
    System.out.println(wrong == 0 ? "all is as due" : wrong + " things are not as due");
    if (wrong != 0) System.exit(1);
  }
}
