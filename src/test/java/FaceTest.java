import java.lang.reflect.Constructor;
import java.lang.reflect.Field;
import java.lang.reflect.Method;
import java.lang.reflect.Modifier;
import java.util.Set;
import java.util.TreeSet;

/** The public face is that of the document, and what one object takes of the room stays small. */
public final class FaceTest {
  private static final String[] FACE = {
    "int feed(int,int,int,int,int)", "int end(int)", "int tell()", "int apply(int,int,int)", "int use(int,int)",
    "int giveBack(int)", "int hand(int,int,int)", "int merge(int,int)", "int lend(int,int,int,int)",
    "long excess(int,int,int,int)", "int days(int)", "int widen(int,int)", "int set(int,int)", "int undo()",
    "int keep(int)", "int back(int)", "int told(int)", "int origin(int,int)", "int past(int,int,int)",
    "int sort(int,int)", "long mean(int,int)", "int share(int,int,int)", "int licence(int,int)", "int month(int,int)",
    "long rate(int)", "int idle(int,int)", "long owed(int)", "int would(int,int,int)", "int lapses(int)",
    "int next(int)", "int best(int,int,int)", "int order(int)", "long focus(int)", "int carry(int)", "int window()",
    "int shareAt(int,int,int)", "long speed(int)", "int fastest(int)", "int log(int,int,int)", "int risk(int)",
    "int lacks(int,int,int)", "int pace(int)", "int peak(int,int,int)", "int even(int,int)", "int future(int,int)",
    "long likely(int)", "int root(int,int)", "int median(int)", "int rush(int,int,int)", "int stood(int,int)",
    "int owing(int)", "int holds(int,int)", "int total(int)", "int row(int,int)", "int note(int,int,long)",
    "long noted(int)", "int letter(int)", "int count(int)"};

  private FaceTest() {
  }

  public static void main(String[] args) throws Exception {
    checkMethods();
    checkMembers();
    checkRoom();
    Check.close("FaceTest");
  }

  private static String told(Method method) {
    StringBuilder text = new StringBuilder();
    text.append(method.getReturnType().getSimpleName()).append(' ').append(method.getName()).append('(');
    for (int i = 0; i < method.getParameterCount(); i++) {
      text.append(i == 0 ? "" : ",").append(method.getParameterTypes()[i].getSimpleName());
    }
    return text.append(')').toString();
  }

  private static void checkMethods() {
    Set<String> due = new TreeSet<>(Set.of(FACE));
    Set<String> names = new TreeSet<>();
    Set<String> there = new TreeSet<>();
    for (Method method : QuotaLicences.class.getDeclaredMethods()) {
      if (Modifier.isPublic(method.getModifiers())) {
        there.add(told(method));
        names.add(method.getName());
      }
    }
    Check.dueText("the methods", there.toString(), due.toString());
    Check.due("how many methods", there.size(), 58);
    for (Class<?> inside : QuotaLicences.class.getDeclaredClasses()) {
      for (Method method : inside.getDeclaredMethods()) {
        Check.isTrue("a name of the face inside: " + told(method), !names.contains(method.getName()));
      }
    }
    for (Method method : QuotaLicences.class.getDeclaredMethods()) {
      boolean isPublic = Modifier.isPublic(method.getModifiers());
      Check.isTrue("public or private: " + told(method), isPublic || Modifier.isPrivate(method.getModifiers()));
      Check.isTrue("a private method of a public name: " + told(method), isPublic || !names.contains(method.getName()));
    }
  }

  private static void checkMembers() {
    for (Field field : QuotaLicences.class.getDeclaredFields()) {
      boolean none = field.getName().equals("NONE");
      Check.isTrue("field " + field.getName(), none == Modifier.isPublic(field.getModifiers()));
      Check.isTrue("field " + field.getName(), none || Modifier.isPrivate(field.getModifiers()));
    }
    Constructor<?>[] constructors = QuotaLicences.class.getDeclaredConstructors();
    Check.due("constructors", constructors.length, 1);
    Check.due("a public one without parameters", constructors[0].getParameterCount(), 0);
    Check.isTrue("a final class", Modifier.isFinal(QuotaLicences.class.getModifiers()));
    Check.isTrue("at most twelve classes", QuotaLicences.class.getDeclaredClasses().length < 12);
    for (Class<?> inside : QuotaLicences.class.getDeclaredClasses()) {
      Check.isTrue("static: " + inside.getName(), Modifier.isStatic(inside.getModifiers()));
    }
  }

  /** The dearest object: every state that can be undone and both shelves are made. */
  private static void checkRoom() throws Exception {
    QuotaLicences x = Check.of("scheme 0 1 1 0 0 1;origin 1;importer");
    for (int i = 0; i < 15; i++) {
      x.excess(0, 0, 1, 1);
    }
    x.keep(0);
    x.keep(1);
    Check.isTrue("the room of one object", roomOf(x) < 25000);
    Check.isTrue("the room of a new object", roomOf(new QuotaLicences()) < 2500);
  }

  private static int roomOf(Object object) throws Exception {
    if (object == null) {
      return 0;
    }
    Class<?> sort = object.getClass();
    if (sort.isArray()) {
      int many = java.lang.reflect.Array.getLength(object);
      int sum = many;
      for (int i = 0; i < many && !sort.getComponentType().isPrimitive(); i++) {
        sum += roomOf(java.lang.reflect.Array.get(object, i));
      }
      return sum;
    }
    int sum = 0;
    for (Field field : sort.getDeclaredFields()) {
      if (!Modifier.isStatic(field.getModifiers())) {
        field.setAccessible(true);
        sum += 1 + (field.getType().isPrimitive() ? 0 : roomOf(field.get(object)));
      }
    }
    return sum;
  }
}
