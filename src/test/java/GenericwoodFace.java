import java.io.IOException;
import java.lang.reflect.Member;
import java.lang.reflect.Method;
import java.lang.reflect.Modifier;
import java.nio.file.Files;
import java.nio.file.Path;
import java.util.ArrayList;
import java.util.HashSet;
import java.util.List;
import java.util.Set;
import java.util.regex.Matcher;
import java.util.regex.Pattern;

/** The class has just the document's face, and its file keeps to those rules of LANGUAGE.md that can be read off it. */
public final class GenericwoodFace {
  private static int wrong = 0;

  private static void told(boolean is, String what) {
    if (!is) {
      wrong++;
      System.out.println(what);
    }
  }

  private static String plain(String signature) {
    return signature.replaceAll("\\bjava\\.(lang|util)\\.", "").replaceAll("\\s*,\\s*", ", ").trim();
  }

  /** The face's methods in the document, as reflection would write them without parameter names. */
  private static Set<String> documented() throws IOException {
    String text = Files.readString(Path.of("../shared/DOC.md"));
    String face = text.substring(text.indexOf("```java"), text.indexOf("## Terms"));
    Set<String> methods = new HashSet<>();
    Matcher matcher = Pattern.compile("public (\\w+) (\\w+)\\(([^)]*)\\)(?: throws ([^;]*))?;").matcher(face);
    while (matcher.find()) {
      StringBuilder line = new StringBuilder(matcher.group(1) + " " + matcher.group(2) + "(");
      line.append(matcher.group(3).replaceAll("(\\w+) \\w+", "$1")).append(")");
      if (matcher.group(4) != null) line.append(" throws ").append(matcher.group(4));
      methods.add(plain(line.toString()));
    }
    return methods;
  }

  private static Set<String> built() {
    Set<String> methods = new HashSet<>();
    for (Method method : Genericwood.class.getDeclaredMethods()) {
      if (!Modifier.isPublic(method.getModifiers())) continue;
      List<String> types = new ArrayList<>();
      for (Class<?> type : method.getParameterTypes()) types.add(type.getSimpleName());
      List<String> thrown = new ArrayList<>();
      for (Class<?> type : method.getExceptionTypes()) thrown.add(type.getSimpleName());
      String end = thrown.isEmpty() ? "" : " throws " + String.join(", ", thrown);
      methods.add(method.getReturnType().getSimpleName() + " " + method.getName() + "("
          + String.join(", ", types) + ")" + end);
    }
    return methods;
  }

  private static void face() throws IOException {
    Set<String> wanted = documented();
    Set<String> there = built();
    told(wanted.size() == 43, "the document's face was read as " + wanted.size() + " methods");
    for (String method : wanted) told(there.contains(method), "missing: " + method);
    for (String method : there) told(wanted.contains(method), "not in the document: " + method);
    told(Modifier.isFinal(Genericwood.class.getModifiers()), "the class is not final");
    told(Genericwood.class.getConstructors().length == 1, "there is more than one constructor");
  }

  private static void hidden(Member member) {
    int modifiers = member.getModifiers();
    told(Modifier.isPublic(modifiers) || Modifier.isPrivate(modifiers), "rule 1: not private: " + member);
  }

  private static void members() {
    Set<String> names = new HashSet<>();
    for (Method method : Genericwood.class.getMethods()) names.add(method.getName());
    List<Class<?>> classes = new ArrayList<>(List.of(Genericwood.class));
    classes.addAll(List.of(Genericwood.class.getDeclaredClasses()));
    told(classes.size() <= 12, "rule 11: too many classes");
    for (Member member : Genericwood.class.getDeclaredMethods()) hidden(member);
    for (Member member : Genericwood.class.getDeclaredFields()) {
      hidden(member);
      told(Modifier.isPrivate(member.getModifiers()), "a constant that the document has not: " + member);
    }
    for (Class<?> type : classes) {
      for (Method method : type.getDeclaredMethods()) {
        told(method.getParameterCount() <= 7, "rule 11: too many parameters: " + method);
        told(Modifier.isPublic(method.getModifiers()) || !names.contains(method.getName()),
            "rule 1: bears the name of a public one: " + method);
      }
    }
  }

  /** Row indices are tested in two methods alone; nothing is caught, made by chance, or made per call. */
  private static void source() throws IOException {
    String text = Files.readString(Path.of("src/main/java/Genericwood.java"));
    String code = text.replaceAll("(?s)/\\*.*?\\*/", "").replaceAll("//[^\n]*", "");
    String[] never = {"\\bcatch\\b", "\\bfinally\\b", "\\bassert\\b", "\\bsynchronized\\b", "->", "::", "@",
        "\\bpackage\\b", "\\bstatic \\{", "\\bSystem\\b", "Exact\\b", "\\bstatic (?!final|class|int|boolean|void)",
        "\"\\s*\\+", "\\+\\s*\"", "\\bprotected\\b", "\\bvar\\b", "[^\\x00-\\x7f]"};
    for (String pattern : never) {
      Matcher matcher = Pattern.compile(pattern).matcher(code);
      told(!matcher.find(), "the file has " + pattern);
    }
    Matcher indexed = Pattern.compile("\\w+\\[[^\\]]+\\]").matcher(code);
    Set<String> places = new HashSet<>();
    while (indexed.find()) places.add(indexed.group());
    for (String place : places)
      told(place.equals("row[index]") || place.startsWith("int["), "rule 7: an index not tested: " + place);
    Matcher imported = Pattern.compile("import ([^;]*);").matcher(code);
    while (imported.find())
      told(imported.group(1).equals("java.util.NoSuchElementException"), "rule 4: " + imported.group());
  }

  public static void main(String[] args) throws IOException {
    face();
    members();
    source();
    System.out.println(wrong == 0 ? "the face and the rules are kept" : wrong + " faults");
    if (wrong != 0) System.exit(1);
  }
}
