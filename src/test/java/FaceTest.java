import java.io.IOException;
import java.lang.reflect.Constructor;
import java.lang.reflect.Field;
import java.lang.reflect.Method;
import java.lang.reflect.Modifier;
import java.nio.file.Files;
import java.nio.file.Path;
import java.util.ArrayList;
import java.util.Arrays;
import java.util.Collections;
import java.util.List;
import java.util.Set;
import java.util.TreeSet;
import java.util.regex.Matcher;
import java.util.regex.Pattern;

/** The public face is the document's, and nothing else can be seen; what LANGUAGE.md rules out is not used. */
final class FaceTest {
  private static final String INDEX = " throws IndexOutOfBoundsException";
  private static final String ARGUMENT = " throws IllegalArgumentException";
  private static final String INDEX_ARGUMENT = INDEX + ", IllegalArgumentException";
  private static final String ARGUMENT_STATE = ARGUMENT + ", IllegalStateException";

  private static final String[] FACE = {
    "int mode(int,int)" + INDEX_ARGUMENT, "int loss(int,int)" + INDEX_ARGUMENT, "int set(int,int)" + INDEX_ARGUMENT,
    "int pulse(int)" + ARGUMENT, "int send(int)" + ARGUMENT, "int gap()", "int drop()",
    "int append(int)" + ARGUMENT_STATE, "int clearBuffer()", "int firstError()", "int load()" + ARGUMENT,
    "int keep(int)" + ARGUMENT, "int goBack(int)" + ARGUMENT_STATE, "int undo() throws IllegalStateException",
    "int lampOf(int,int)" + INDEX_ARGUMENT, "int pulseAt(int)" + ARGUMENT, "int count(int)" + ARGUMENT,
    "int setting(int)" + INDEX, "int ifGap(int,int)" + INDEX_ARGUMENT, "int wrong(int)" + ARGUMENT,
    "int bears(int)" + INDEX, "int brokenAt()", "int wordsTo(int)" + INDEX, "double brightness()", "long digest()"};

  private static final String[] RULED_OUT = {
    "\\bimport\\b", "\\bpackage\\b", "->", "::", "Exact\\b", "\\bDouble\\b", "\\bcatch\\b", "\\bfinally\\b",
    "\\bsynchronized\\b", "\\bassert\\b", "\\bSystem\\.(?!arraycopy)", "\\bstatic (final )?(double|float)\\b [A-Z]",
    "\\bstatic \\{", "\\btoString\\b", "\\bhashCode\\b"};

  public static void main(String[] args) throws IOException {
    Due.is("NONE", WireLamps.NONE, -1);
    face();
    source();
    Due.end();
  }

  private static void face() {
    List<String> seen = new ArrayList<>();
    Set<String> publicNames = new TreeSet<>();
    Set<String> privateNames = new TreeSet<>();
    for (Method method : WireLamps.class.getDeclaredMethods()) {
      if (Modifier.isPrivate(method.getModifiers())) {
        privateNames.add(method.getName());
      } else {
        publicNames.add(method.getName());
        seen.add(told(method));
      }
    }
    for (Class<?> inside : WireLamps.class.getDeclaredClasses()) {
      Due.is(inside + " is static", Modifier.isStatic(inside.getModifiers()) ? 1 : 0, 1);
      Due.is(inside + " is not public", Modifier.isPublic(inside.getModifiers()) ? 1 : 0, 0);
      for (Method method : inside.getDeclaredMethods()) {
        privateNames.add(method.getName());
      }
    }
    List<String> due = new ArrayList<>();
    for (String method : FACE) {
      due.add("public " + method);
    }
    Collections.sort(seen);
    Collections.sort(due);
    Due.is("the methods " + seen + ", due " + due, seen.equals(due) ? 1 : 0, 1);
    privateNames.retainAll(publicNames);
    Due.is("private methods with names of public ones: " + privateNames, privateNames.size(), 0);
    Due.is("the class is public and final", WireLamps.class.getModifiers(), Modifier.PUBLIC | Modifier.FINAL);
    Constructor<?>[] constructors = WireLamps.class.getDeclaredConstructors();
    Due.is("constructors", constructors.length, 1);
    Due.is("a public constructor without parameters", constructors[0].getModifiers(), Modifier.PUBLIC);
    Due.is("its parameters", constructors[0].getParameterCount(), 0);
    for (Field field : WireLamps.class.getDeclaredFields()) {
      if (field.getName().equals("NONE")) {
        Due.areSame("the constant", field.toString(), "public static final int WireLamps.NONE");
      } else {
        Due.is(field.getName() + " is private", Modifier.isPrivate(field.getModifiers()) ? 1 : 0, 1);
      }
    }
  }

  private static String told(Method method) {
    String parameters = Arrays.toString(method.getParameterTypes()).replaceAll("[\\[\\] ]", "");
    String modifiers = Modifier.toString(method.getModifiers());
    StringBuilder thrown = new StringBuilder();
    for (Class<?> exception : method.getExceptionTypes()) {
      thrown.append(thrown.length() == 0 ? " throws " : ", ").append(exception.getSimpleName());
    }
    return modifiers + " " + method.getReturnType() + " " + method.getName() + "(" + parameters + ")" + thrown;
  }

  private static void source() throws IOException {
    String text = Files.readString(Path.of("src/main/java/WireLamps.java"));
    String code = text.replaceAll("(?s)/\\*.*?\\*/", " ").replaceAll("//[^\n]*", " ");
    for (String ruledOut : RULED_OUT) {
      Matcher matcher = Pattern.compile(ruledOut).matcher(code);
      Due.is("the source holds " + ruledOut, matcher.find() ? 1 : 0, 0);
    }
    for (int i = 0; i < text.length(); i++) {
      if (text.charAt(i) > 126) {
        Due.is("the sign at " + i, text.charAt(i), 0);
      }
    }
  }
}
