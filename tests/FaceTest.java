import java.io.IOException;
import java.lang.reflect.Constructor;
import java.lang.reflect.Field;
import java.lang.reflect.Method;
import java.lang.reflect.Modifier;
import java.nio.file.Files;
import java.nio.file.Path;
import java.util.Arrays;
import java.util.Set;
import java.util.TreeSet;

/** The public face of the document, and the rules of LANGUAGE.md that can be seen without a compiler. */
public final class FaceTest {
  private static final String[] METHODS = {
    "pair 3 IndexOutOfBoundsException", "cell 5 IndexOutOfBoundsException",
    "state 2 IndexOutOfBoundsException", "channel 1 IndexOutOfBoundsException", "guarded 1",
    "feed 5 IllegalStateException", "packet 0 IllegalStateException",
    "nothing 1 IndexOutOfBoundsException", "pages 0", "find 3", "page 2 IndexOutOfBoundsException",
    "sign 3 IndexOutOfBoundsException", "link 3 IndexOutOfBoundsException",
    "open 1 IndexOutOfBoundsException", "watch 2 IllegalArgumentException",
    "tick 1 IllegalArgumentException", "cues 0", "cue 2 IndexOutOfBoundsException",
    "line 2 IndexOutOfBoundsException"
  };

  public static void main(String[] args) throws IOException {
    face();
    members();
    source(Files.readString(Path.of("src/main/java/CaptionDesk.java")));
    Check.end("FaceTest");
  }

  private static void face() {
    Set<String> found = new TreeSet<>();
    for (Method m : CaptionDesk.class.getDeclaredMethods()) {
      if (Modifier.isPublic(m.getModifiers())) {
        found.add(nameOf(m));
        Check.isTrue(m.getName() + " answers an int", m.getReturnType() == int.class);
        for (Class<?> c : m.getParameterTypes()) {
          Check.isTrue(m.getName() + " takes ints", c == int.class);
        }
      }
    }
    Check.isTrue("the methods: " + found, found.equals(new TreeSet<>(Arrays.asList(METHODS))));
    int kind = CaptionDesk.class.getModifiers();
    Check.isTrue("a public final class", Modifier.isPublic(kind) && Modifier.isFinal(kind));
  }

  private static String nameOf(Method m) {
    StringBuilder b = new StringBuilder(m.getName()).append(' ').append(m.getParameterCount());
    for (Class<?> e : m.getExceptionTypes()) {
      b.append(' ').append(e.getSimpleName());
    }
    return b.toString();
  }

  private static void members() {
    Set<String> publicNames = new TreeSet<>();
    for (String s : METHODS) {
      publicNames.add(s.substring(0, s.indexOf(' ')));
    }
    for (Method m : CaptionDesk.class.getDeclaredMethods()) {
      boolean isPrivate = Modifier.isPrivate(m.getModifiers());
      Check.isTrue(m.getName() + " is of the face or private", isPrivate || Modifier.isPublic(m.getModifiers()));
      Check.isTrue(m.getName() + " has a name of its own", !isPrivate || !publicNames.contains(m.getName()));
    }
    for (Field f : CaptionDesk.class.getDeclaredFields()) {
      Check.isTrue(f.getName() + " is NONE or private",
          f.getName().equals("NONE") || Modifier.isPrivate(f.getModifiers()));
    }
    for (Constructor<?> c : CaptionDesk.class.getDeclaredConstructors()) {
      Check.isTrue("one constructor", Modifier.isPublic(c.getModifiers()) && c.getParameterCount() == 0);
    }
    Check.isTrue("at most twelve classes", CaptionDesk.class.getDeclaredClasses().length < 12);
    for (Class<?> c : CaptionDesk.class.getDeclaredClasses()) {
      Check.isTrue(c.getName() + " is static", Modifier.isStatic(c.getModifiers()));
      Check.isTrue(c.getName() + " is not public", !Modifier.isPublic(c.getModifiers()));
      sizes(c);
      staticFieldsAreFinal(c);
      for (Method m : c.getDeclaredMethods()) {
        Check.isTrue(c.getName() + "." + m.getName(), !publicNames.contains(m.getName()));
      }
    }
    sizes(CaptionDesk.class);
    staticFieldsAreFinal(CaptionDesk.class);
  }

  /** "A method takes at most seven parameters", "a class some twenty fields beside its constants" */
  private static void sizes(Class<?> c) {
    for (Method m : c.getDeclaredMethods()) {
      Check.isTrue(m.getName() + " takes at most seven", m.getParameterCount() <= 7);
    }
    long fields = Arrays.stream(c.getDeclaredFields()).filter(f -> !Modifier.isStatic(f.getModifiers())).count();
    Check.isTrue(c.getName() + " has at most twenty fields", fields <= 20);
  }

  private static void staticFieldsAreFinal(Class<?> c) {
    for (Field f : c.getDeclaredFields()) {
      int kind = f.getModifiers();
      Check.isTrue(f.getName() + " is final", !Modifier.isStatic(kind) || Modifier.isFinal(kind));
    }
  }

  private static void source(String text) {
    String[] forbidden = {"import ", "package ", "catch", "finally", "->", "::", "synchronized", "assert",
      "Random", "System.out", "currentTime", "nanoTime", "Thread", "Exact", "hashCode", "toString"};
    for (String s : forbidden) {
      Check.isTrue("no " + s, !text.contains(s));
    }
  }
}
