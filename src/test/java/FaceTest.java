import java.lang.reflect.Constructor;
import java.lang.reflect.Field;
import java.lang.reflect.Method;
import java.lang.reflect.Modifier;
import java.util.ArrayList;
import java.util.Collections;
import java.util.List;

/** The class has the document's face and no other visible member. */
public final class FaceTest {
    private static final String FACE = "back():boolean batch(int,int):int boil(int):int "
            + "burns(int,int):int check(int,int,long,long):int count(int):long cut(int,int,int):boolean "
            + "day(int):int dip(int,int,int):int even(int,int):long fat(int):int hour(int,float):int "
            + "hours(int,int,int):int image():void left(int,int):int loss(int):boolean "
            + "lot(int,float,int,int):int lye(int,int,int):int mix(int):boolean more(int,int):int "
            + "mould(int):int part(int,int,int):int piece(int,int):int place(int):int "
            + "pour(int,int):boolean ready(int):int recipe(int):int row(int,int,int):boolean "
            + "save(int,int):int scale(boolean):void sell(int,int,int):int spill(int,float):int "
            + "status():int stock(int):long tear(int):boolean told(int,int):int "
            + "torn(int,int):boolean trial(int,int):int weigh(int,int,float):int with(int,int):int";

    public static void main(String[] args) {
        Due.is("NONE", Chandlery.NONE, -1);
        Due.is("public and final", Chandlery.class.getModifiers() == (Modifier.PUBLIC | Modifier.FINAL), true);
        Constructor<?>[] makers = Chandlery.class.getDeclaredConstructors();
        Due.is("constructors", makers.length, 1);
        Due.is("its parameters", makers[0].getParameterCount(), 0);
        Due.is("it is public", Modifier.isPublic(makers[0].getModifiers()), true);
        methods();
        fields();
        Due.end();
    }

    private static void methods() {
        List<String> seen = new ArrayList<>();
        List<String> names = new ArrayList<>();
        List<String> hidden = new ArrayList<>();
        for (Method m : Chandlery.class.getDeclaredMethods()) {
            if (Modifier.isPrivate(m.getModifiers())) {
                hidden.add(m.getName());
            } else {
                seen.add(told(m));
                names.add(m.getName());
            }
        }
        Collections.sort(seen);
        String all = String.join(" ", seen);
        if (!all.equals(FACE)) {
            System.out.println("the face is " + all);
        }
        Due.is("the face", all.equals(FACE), true);
        hidden.retainAll(names);
        Due.is("private methods with a public one's name", hidden.size(), 0);
    }

    private static String told(Method m) {
        List<String> types = new ArrayList<>();
        for (Class<?> type : m.getParameterTypes()) {
            types.add(type.getName());
        }
        String visible = Modifier.isPublic(m.getModifiers()) && !Modifier.isStatic(m.getModifiers()) ? "" : "not as due: ";
        return visible + m.getName() + "(" + String.join(",", types) + "):" + m.getReturnType().getName();
    }

    private static void fields() {
        for (Field f : Chandlery.class.getDeclaredFields()) {
            int how = f.getModifiers();
            Due.is(f.getName() + " is private", Modifier.isPrivate(how), !f.getName().equals("NONE"));
            Due.is(f.getName() + ", if static, is final", !Modifier.isStatic(how) || Modifier.isFinal(how), true);
        }
    }
}
