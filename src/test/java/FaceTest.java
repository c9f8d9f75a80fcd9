import java.lang.reflect.Constructor;
import java.lang.reflect.Field;
import java.lang.reflect.Method;
import java.lang.reflect.Modifier;
import java.util.Set;
import java.util.TreeSet;

/** The public face is the document's, and nothing else can be seen from outside. */
public final class FaceTest {
  private static final String[] FACE = {
    "int cell(int,int)", "int copy(int,int,int,int,int)", "int count(int)", "int dig(int,int)",
    "int from(int,int)", "int gang(int,int)", "int image()", "int judge(int)",
    "int keep(int,int,int,int)", "int lay(int,int)", "int listen(int,int)", "int loud(int,int,int)",
    "int met()", "int mountain(int)", "int paths(int,int)", "int pay(int)", "int put(int,int,int)",
    "int reaches(int,int)", "int restore()", "int rocks(int,int,int,int,int)", "int row(int,int,int)",
    "int safe(int,int,int)", "int seeded(int,int,int)", "int side(int,int)", "int soon()",
    "int taken(int,int,int)", "int time(int,int)", "int toils()", "int toss(int)",
    "long element(int,int)",
  };

  public static void main(String[] args) {
    Class<?> face = KnocksThroughRock.class;
    Due.is("public and final", face.getModifiers() & ~Modifier.SYNCHRONIZED, Modifier.PUBLIC | Modifier.FINAL);
    Due.is("no class above", face.getSuperclass() == Object.class ? 1 : 0, 1);
    Constructor<?>[] made = face.getDeclaredConstructors();
    Due.is("constructors", made.length, 1);
    Due.is("a public constructor of nothing", made[0].getModifiers() * 10 + made[0].getParameterCount(), Modifier.PUBLIC * 10);
    Set<String> seen = new TreeSet<>();
    Set<String> names = new TreeSet<>();
    for (Method m : face.getDeclaredMethods()) {
      if (!Modifier.isPrivate(m.getModifiers())) {
        Due.is(m + " is public alone", m.getModifiers(), Modifier.PUBLIC);
        seen.add(signature(m));
        names.add(m.getName());
      }
    }
    Set<String> wanted = new TreeSet<>(Set.of(FACE));
    Due.is("the calls of the face: " + seen, seen.equals(wanted) ? 1 : 0, 1);
    for (Method m : face.getDeclaredMethods()) {
      boolean isHidden = Modifier.isPrivate(m.getModifiers());
      Due.is("a private method's name: " + m, isHidden && names.contains(m.getName()) ? 1 : 0, 0);
    }
    lookAtFields(face);
    for (Class<?> inside : face.getDeclaredClasses()) {
      Due.is(inside + " is static", Modifier.isStatic(inside.getModifiers()) ? 1 : 0, 1);
      Due.is(inside + " is hidden", inside.getModifiers() & (Modifier.PUBLIC | Modifier.PROTECTED), 0);
      lookAtFields(inside);
    }
    Due.end();
  }

  private static void lookAtFields(Class<?> owner) {
    for (Field f : owner.getDeclaredFields()) {
      int is = f.getModifiers();
      if (owner == KnocksThroughRock.class) {
        Due.is(f + " is private", Modifier.isPrivate(is) ? 1 : 0, 1);
      }
      Due.is(f + " is final if static", !Modifier.isStatic(is) || Modifier.isFinal(is) ? 1 : 0, 1);
    }
  }

  private static String signature(Method m) {
    StringBuilder text = new StringBuilder(m.getReturnType().getName());
    text.append(' ').append(m.getName()).append('(');
    String comma = "";
    for (Class<?> c : m.getParameterTypes()) {
      text.append(comma).append(c.getName());
      comma = ",";
    }
    return text.append(')').toString();
  }
}
