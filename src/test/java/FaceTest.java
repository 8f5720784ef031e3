import java.lang.reflect.Constructor;
import java.lang.reflect.Field;
import java.lang.reflect.Method;
import java.lang.reflect.Modifier;
import java.util.Arrays;
import java.util.TreeSet;

/** The public face, as the document writes it, and nothing beside it that could be seen. */
public final class FaceTest {
  private static final String FACE = """
      public boolean ScopeKeeper.network(boolean,int)
      public int ScopeKeeper.claim(int) throws IllegalArgumentException,java.util.NoSuchElementException,IllegalStateException
      public int ScopeKeeper.close(int) throws java.util.NoSuchElementException
      public int ScopeKeeper.count(int) throws IllegalArgumentException
      public int ScopeKeeper.fetch(int,int) throws IllegalArgumentException,java.util.NoSuchElementException,UnsupportedOperationException
      public int ScopeKeeper.job(int,int,int) throws IllegalArgumentException,IllegalStateException
      public int ScopeKeeper.open(int) throws IllegalArgumentException,IllegalStateException
      public int ScopeKeeper.outcome(int) throws IndexOutOfBoundsException
      public int ScopeKeeper.registration(int,int) throws IllegalArgumentException,java.util.NoSuchElementException
      public int ScopeKeeper.skip(int) throws IllegalArgumentException,java.util.NoSuchElementException,IllegalStateException
      public int ScopeKeeper.step(int) throws IllegalArgumentException,java.util.NoSuchElementException
      public int ScopeKeeper.trace(int) throws IndexOutOfBoundsException
      public int ScopeKeeper.worker(int,int) throws IllegalArgumentException,IndexOutOfBoundsException
      public void ScopeKeeper.serve(int,int,int,int,int) throws IllegalArgumentException
      public ScopeKeeper()
      """;

  public static void main(String[] args) {
    TreeSet<String> due = new TreeSet<>(Arrays.asList(FACE.split("\n")));
    TreeSet<String> got = new TreeSet<>();
    for (Method method : ScopeKeeper.class.getDeclaredMethods()) {
      if (!Modifier.isPrivate(method.getModifiers())) {
        got.add(method.toString().replace("java.lang.", ""));
      }
    }
    for (Constructor<?> constructor : ScopeKeeper.class.getDeclaredConstructors()) {
      got.add(constructor.toString().replace("java.lang.", ""));
    }
    for (Field field : ScopeKeeper.class.getDeclaredFields()) {
      if (!Modifier.isPrivate(field.getModifiers())) {
        got.add(field.toString());
      }
    }
    if (!Modifier.isFinal(ScopeKeeper.class.getModifiers())) {
      got.add("the class is not final");
    }
    if (!due.equals(got)) {
      System.out.println("the face is " + got + "\ndue is " + due);
      System.exit(1);
    }
  }
}
