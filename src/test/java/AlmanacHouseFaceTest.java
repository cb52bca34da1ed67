import java.lang.reflect.Constructor;
import java.lang.reflect.Field;
import java.lang.reflect.Method;
import java.lang.reflect.Modifier;
import java.util.ArrayList;
import java.util.Collections;
import java.util.List;

/** The public face: just what the document shows, with its exceptions, and nothing beside it. */
public final class AlmanacHouseFaceTest {
  private static final String[] FACE = {
    "int setLeaps(int,int) IllegalArgumentException",
    "int setMoon(int,int) IllegalArgumentException",
    "int setNodes(int,int) IllegalArgumentException",
    "boolean leap(int) IllegalArgumentException",
    "int day(int,int,int) IllegalArgumentException",
    "int date(int,int) IllegalArgumentException IndexOutOfBoundsException",
    "int line(int) IllegalArgumentException",
    "int moon(int,boolean) IllegalArgumentException",
    "int eclipses(int,boolean) IllegalArgumentException",
    "int next(int) IllegalArgumentException",
    "int observe(int,boolean) IllegalArgumentException",
    "int addFeast(int,int,int,int,int) IllegalArgumentException IllegalStateException",
    "int feast(int,int) IndexOutOfBoundsException IllegalArgumentException",
    "int clashes(int) IllegalArgumentException",
    "int again(int,int) IndexOutOfBoundsException IllegalArgumentException",
    "int print(int) IllegalArgumentException IllegalStateException",
    "int reprint(int) IndexOutOfBoundsException",
    "int sheet(int,int) IndexOutOfBoundsException",
    "int printed(int,int) IndexOutOfBoundsException",
    "int count(int) IndexOutOfBoundsException",
    "int cycle(int) IllegalArgumentException",
    "double mean()",
    "long digest()",
  };

  private static int wrong = 0;

  public static void main(String[] args) {
    Class<?> house = AlmanacHouse.class;
    due("public final", Modifier.toString(house.getModifiers()));
    List<String> want = new ArrayList<>(List.of(FACE));
    List<String> got = new ArrayList<>();
    List<String> privates = new ArrayList<>();
    for (Method m : house.getDeclaredMethods()) {
      if (Modifier.isPublic(m.getModifiers())) {
        got.add(Faces.told(m));
      } else {
        privates.add(m.getName());
        due("private", Modifier.isPrivate(m.getModifiers()) ? "private" : "the method " + m.getName());
      }
    }
    Collections.sort(want);
    Collections.sort(got);
    due(want.toString(), got.toString());
    for (String face : FACE) {
      String name = face.substring(face.indexOf(' ') + 1, face.indexOf('('));
      due("free", privates.contains(name) ? "a private method " + name : "free");
    }
    Constructor<?>[] made = house.getDeclaredConstructors();
    due("1", String.valueOf(made.length));
    due("public AlmanacHouse()", made[0].toString());
    for (Field f : house.getDeclaredFields()) {
      due("private", Modifier.isPrivate(f.getModifiers()) ? "private" : "the field " + f.getName());
    }
    System.out.println(wrong == 0 ? "the face is as the document shows it" : wrong + " answers are not as due");
    if (wrong != 0) {
      System.exit(1);
    }
  }

  private static void due(String want, String got) {
    if (!got.equals(want)) {
      wrong++;
      System.out.println("found: " + got + ", due is: " + want);
    }
  }
}
